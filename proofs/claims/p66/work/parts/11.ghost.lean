/-! GHOSTS: functions that are not called here; the class's others and a kitchen to hold it against -/
def sCmd (i : Nat) : Int32 × Int32 := ([(0, 1), (0, 1), (0, 1), (1, 0), (1, 0), (0, 1), (1, 1), (0, 0)] : List (Int32 × Int32)).getD i (0, 0)
def sSw (i : Nat) : Int32 := ([1, 2, 3, 4, 5, 6, 7, 0] : List Int32).getD i 0
noncomputable def M12_in (Y : Mem) (a0 : Int32) (a1 : Int32) (a2 : Int32) : Option (Int32) :=
  if a0 < a1 then (some 0) else (if a2 < a0 then (some 0) else (some 1))
noncomputable def M12_fails_b26 (a1 : Int32) (a2 : Int32) (a3 : Int32) (Y : Mem) (s0 : Int32) : Option (Int32 × Mem) :=
  lt_ (up Y 10 0 0 9 s0) <| fun Y4 => if (Y4 10 0 0 9) ≤ 0 then (some (0, Y4)) else (some (1, Y4))
noncomputable def M12_fails (Y : Mem) (a1 : Int32) (a2 : Int32) (a3 : Int32) : Option (Int32 × Mem) :=
  if a1 = 0 then (if a2 = 0 then (if a3 = 0 then (M12_fails_b26 a1 a2 a3 Y 0) else (M12_fails_b26 a1 a2 a3 Y 3)) else (M12_fails_b26 a1 a2 a3 Y 2)) else (M12_fails_b26 a1 a2 a3 Y 1)
noncomputable def M12_copyBlock_b2 (a1 : Int32) (a2 : Int32) : Nat → Mem → Int32 → Option (Mem)
  | 0, _, _ => none
  | n+1, Y, l3 =>
  if 382 ≤ l3 then (some Y) else (gd (inb ((a1 * 382) + l3) 4202) <| gd (inb ((a2 * 382) + l3) 4202) <| lt_ (up Y 10 0 1 (ix ((a2 * 382) + l3)) (Y 10 0 1 (ix ((a1 * 382) + l3)))) <| fun Y4 => M12_copyBlock_b2 a1 a2 n Y4 (l3 + 1))
noncomputable def M12_copyBlock (Y : Mem) (a1 : Int32) (a2 : Int32) : Option (Mem) :=
  M12_copyBlock_b2 a1 a2 FU Y 0
noncomputable def M12_remember_b41 (a1 : Int32) (Y : Mem) : Option (Mem) :=
  lt_ (up Y 10 0 0 2 ((Y 10 0 0 2) + 1)) <| fun Y2 => bd1 (M12_copyBlock Y2 a1 (Y2 10 0 0 2)) <| fun Y6 => some Y6
noncomputable def M12_remember_b11 (a1 : Int32) : Nat → Mem → Int32 → Option (Mem)
  | 0, _, _ => none
  | n+1, Y, l2 =>
  if 6 ≤ l2 then (lt_ (up Y 10 0 0 2 ((Y 10 0 0 2) - 1)) <| fun Y8 => M12_remember_b41 a1 Y8) else (bd1 (M12_copyBlock Y (l2 + 1) l2) <| fun Y12 => M12_remember_b11 a1 n Y12 (l2 + 1))
noncomputable def M12_remember (Y : Mem) (a1 : Int32) : Option (Mem) :=
  if (Y 10 0 0 2) = 6 then (M12_remember_b11 a1 FU Y 1) else (M12_remember_b41 a1 Y)
noncomputable def M12_of (Y : Mem) (a1 : Int32) (a2 : Int32) : Option (Int32) :=
  gd (inb ((46 + (a1 * 24)) + a2) 4202) <| some (Y 10 0 1 (ix ((46 + (a1 * 24)) + a2)))
noncomputable def M12_tasteNow_b43 (Y : Mem) (k9 : Int32 → Int32 → Option (Int32)) (l2 : Int32) (s0 : Int32) (s1 : Int32) : Option (Int32) :=
  lt_ (s1 + s0) <| fun v9 => k9 (l2 + 1) v9
noncomputable def M12_tasteNow_b9 (Y : Mem) : Nat → Int32 → Int32 → Option (Int32)
  | 0, _, _ => none
  | n+1, l2, l1 =>
  gd (inb 13 4202) <| if (Y 10 0 1 (ix 13)) ≤ l2 then (some l1) else (bd1 (M12_of Y l2 17) <| fun r6 => if r6 = 2 then (bd1 (M12_of Y l2 8) <| fun r11 => M12_tasteNow_b43 Y (M12_tasteNow_b9 Y n) l2 r11 l1) else (M12_tasteNow_b43 Y (M12_tasteNow_b9 Y n) l2 0 l1))
noncomputable def M12_tasteNow (Y : Mem) : Option (Int32) :=
  gd (inb 5 4202) <| lt_ (Y 10 0 1 (ix 5)) <| fun v2 => M12_tasteNow_b9 Y FU 0 v2
noncomputable def M12_addSalt_b37 (a1 : Int32) (Y : Mem) (s0 : Int32) (s1 : Int32) : Option (Int32 × Mem) :=
  bd2 (M12_fails Y s1 s0 0) <| fun r6 Y8 => if r6 = 0 then (bd1 (M12_remember Y8 0) <| fun Y12 => gd (inb 5 4202) <| lt_ (up Y12 10 0 1 (ix 5) ((Y12 10 0 1 (ix 5)) + a1)) <| fun Y14 => bd1 (M12_tasteNow Y14) <| fun r16 => some (r16, Y14)) else (some (0, Y8))
noncomputable def M12_addSalt_b21 (a1 : Int32) (Y : Mem) (s0 : Int32) : Option (Int32 × Mem) :=
  gd (inb 6 4202) <| if (Y 10 0 1 (ix 6)) = 1 then (M12_addSalt_b37 a1 Y 1 s0) else (M12_addSalt_b37 a1 Y 0 s0)
noncomputable def M12_addSalt_b16 (a1 : Int32) (Y : Mem) : Option (Int32 × Mem) :=
  M12_addSalt_b21 a1 Y 1
noncomputable def M12_addSalt (Y : Mem) (a1 : Int32) : Option (Int32 × Mem) :=
  bd1 (M12_in Y a1 ((-9)) 9) <| fun r1 => if r1 = 0 then (M12_addSalt_b16 a1 Y) else (if a1 = 0 then (M12_addSalt_b16 a1 Y) else (M12_addSalt_b21 a1 Y 0))
noncomputable def M12_isStep (Y : Mem) (a1 : Int32) : Option (Int32) :=
  gd (inb 13 4202) <| bd1 (M12_in Y a1 0 ((Y 10 0 1 (ix 13)) - 1)) <| fun r2 => gd (decide (r2 = 0 ∨ r2 = 1)) <| some r2
noncomputable def M12_field_b14 (a1 : Int32) (a2 : Int32) (Y : Mem) (s0 : Int32) : Option (Int32 × Mem) :=
  bd2 (M12_fails Y s0 0 0) <| fun r4 Y6 => if r4 = 0 then (bd1 (M12_of Y6 a1 a2) <| fun r8 => some (r8, Y6)) else (some (0, Y6))
noncomputable def M12_field (Y : Mem) (a1 : Int32) (a2 : Int32) : Option (Int32 × Mem) :=
  bd1 (M12_isStep Y a1) <| fun r1 => if r1 = 0 then (M12_field_b14 a1 a2 Y 1) else (M12_field_b14 a1 a2 Y 0)
noncomputable def M12_age (Y : Mem) (a1 : Int32) : Option (Int32 × Mem) :=
  bd2 (M12_field Y a1 19) <| fun r1 Y3 => some (r1, Y3)
noncomputable def M12_appendWord_b3 (a1 : Int32) : Nat → Mem → Int32 → Option (Mem)
  | 0, _, _ => none
  | n+1, Y, l2 =>
  if l2 < 0 then (some Y) else (gd (inb (Y 10 0 0 4) 700) <| lt_ (up Y 10 0 3 (ix (Y 10 0 0 4)) ((a1 >>> (l2 &&& 31)) &&& 255)) <| fun Y3 => lt_ (up Y3 10 0 0 4 ((Y3 10 0 0 4) + 1)) <| fun Y5 => M12_appendWord_b3 a1 n Y5 (l2 + (-8)))
noncomputable def M12_appendWord (Y : Mem) (a1 : Int32) : Option (Mem) :=
  M12_appendWord_b3 a1 FU Y 24
noncomputable def M12_append_b19 (a1 : Int32) (a2 : Int32) (a3 : Int32) (a4 : Int32) (a5 : Int32) (Y : Mem) (s0 : Int32) : Option (Int32 × Mem) :=
  bd2 (M12_fails Y s0 0 0) <| fun r2 Y4 => if r2 = 0 then (bd1 (M12_appendWord Y4 a1) <| fun Y8 => bd1 (M12_appendWord Y8 a2) <| fun Y11 => bd1 (M12_appendWord Y11 a3) <| fun Y14 => bd1 (M12_appendWord Y14 a4) <| fun Y17 => bd1 (M12_appendWord Y17 a5) <| fun Y20 => some (Y20 10 0 0 4, Y20)) else (some (0, Y4))
noncomputable def M12_append (Y : Mem) (a1 : Int32) (a2 : Int32) (a3 : Int32) (a4 : Int32) (a5 : Int32) : Option (Int32 × Mem) :=
  if ((Y 10 0 0 4) + 20) ≤ 700 then (M12_append_b19 a1 a2 a3 a4 a5 Y 0) else (M12_append_b19 a1 a2 a3 a4 a5 Y 1)
noncomputable def M12_isSmall (Y : Mem) (a0 : Int32) : Option (Int32) :=
  if a0 < 97 then (some 0) else (if 122 < a0 then (some 0) else (some 1))
noncomputable def M12_isDigit (Y : Mem) (a0 : Int32) : Option (Int32) :=
  if a0 < 48 then (some 0) else (if 57 < a0 then (some 0) else (some 1))
noncomputable def M12_token_b294  (Y : Mem) (s0 : Int32) : Option (Mem) :=
  lt_ (up Y 10 0 0 15 s0) <| fun Y13 => lt_ (up Y13 10 0 0 14 ((Y13 10 0 0 14) + 1)) <| fun Y15 => some Y15
noncomputable def M12_token_b270  (Y : Mem) (s0 : Int32) : Option (Mem) :=
  lt_ (up Y 10 0 0 15 s0) <| fun Y21 => some Y21
noncomputable def M12_token_b251  (Y : Mem) : Option (Mem) :=
  if ((Y 10 0 0 14) - (Y 10 0 0 16)) ≤ 3 then (M12_token_b270 Y 2) else (M12_token_b270 Y 4)
noncomputable def M12_token_b238  (k175 : Mem → Option (Mem)) (Y : Mem) : Option (Mem) :=
  lt_ (up Y 10 0 0 14 ((Y 10 0 0 14) + 1)) <| fun Y28 => k175 Y28
noncomputable def M12_token_b175  : Nat → Mem → Option (Mem)
  | 0, _ => none
  | n+1, Y =>
  if (Y 10 0 0 4) ≤ (Y 10 0 0 14) then (M12_token_b251 Y) else (gd (inb (Y 10 0 0 14) 700) <| bd1 (M12_isDigit Y (Y 10 0 3 (ix (Y 10 0 0 14)))) <| fun r24 => if r24 = 0 then (M12_token_b251 Y) else (if 3 ≤ ((Y 10 0 0 14) - (Y 10 0 0 16)) then (M12_token_b238 (M12_token_b175 n) Y) else (lt_ (up Y 10 0 0 17 ((((Y 10 0 0 17) * 10) + (Y 10 0 3 (ix (Y 10 0 0 14)))) - 48)) <| fun Y30 => M12_token_b238 (M12_token_b175 n) Y30)))
noncomputable def M12_token_b151  (Y : Mem) (s0 : Int32) : Option (Mem) :=
  lt_ (up Y 10 0 0 15 s0) <| fun Y34 => some Y34
noncomputable def M12_token_b131  (Y : Mem) : Option (Mem) :=
  if ((Y 10 0 0 14) - (Y 10 0 0 16)) ≤ 8 then (M12_token_b151 Y 1) else (M12_token_b151 Y 4)
noncomputable def M12_token_b92  : Nat → Mem → Option (Mem)
  | 0, _ => none
  | n+1, Y =>
  if (Y 10 0 0 4) ≤ (Y 10 0 0 14) then (M12_token_b131 Y) else (gd (inb (Y 10 0 0 14) 700) <| bd1 (M12_isSmall Y (Y 10 0 3 (ix (Y 10 0 0 14)))) <| fun r37 => if r37 = 0 then (M12_token_b131 Y) else (lt_ (up Y 10 0 0 14 ((Y 10 0 0 14) + 1)) <| fun Y40 => M12_token_b92 n Y40))
noncomputable def M12_token_b52  (Y : Mem) : Option (Mem) :=
  lt_ (up Y 10 0 0 16 (Y 10 0 0 14)) <| fun Y2 => if (Y2 10 0 0 14) = (Y2 10 0 0 4) then (lt_ (up Y2 10 0 0 15 0) <| fun Y42 => some Y42) else (gd (inb (Y2 10 0 0 14) 700) <| bd1 (M12_isSmall Y2 (Y2 10 0 3 (ix (Y2 10 0 0 14)))) <| fun r6 => if r6 = 0 then (bd1 (M12_isDigit Y2 (Y2 10 0 3 (ix (Y2 10 0 0 14)))) <| fun r9 => if r9 = 0 then (if (Y2 10 0 3 (ix (Y2 10 0 0 14))) = 59 then (M12_token_b294 Y2 3) else (M12_token_b294 Y2 4)) else (lt_ (up Y2 10 0 0 17 0) <| fun Y17 => M12_token_b175 FU Y17)) else (M12_token_b92 FU Y2))
noncomputable def M12_token_b39  (k0 : Mem → Option (Mem)) (Y : Mem) : Option (Mem) :=
  lt_ (up Y 10 0 0 14 ((Y 10 0 0 14) + 1)) <| fun Y46 => k0 Y46
noncomputable def M12_token_b0  : Nat → Mem → Option (Mem)
  | 0, _ => none
  | n+1, Y =>
  if (Y 10 0 0 4) ≤ (Y 10 0 0 14) then (M12_token_b52 Y) else (gd (inb (Y 10 0 0 14) 700) <| if (Y 10 0 3 (ix (Y 10 0 0 14))) = 32 then (M12_token_b39 (M12_token_b0 n) Y) else (if (Y 10 0 3 (ix (Y 10 0 0 14))) = 10 then (M12_token_b39 (M12_token_b0 n) Y) else (M12_token_b52 Y)))
noncomputable def M12_token (Y : Mem) : Option (Mem) :=
  M12_token_b0 FU Y
noncomputable def M12_begin (Y : Mem) : Option (Mem) :=
  lt_ (up Y 10 0 0 5 0) <| fun Y1 => lt_ (up Y1 10 0 0 6 ((-1))) <| fun Y3 => lt_ (up Y3 10 0 0 14 0) <| fun Y5 => bd1 (M12_token Y5) <| fun Y9 => some Y9
noncomputable def M12_firstOpen_b2 (Y : Mem) (a1 : Int32) : Nat → Int32 → Option (Int32)
  | 0, _ => none
  | n+1, l2 =>
  bd1 (M12_of Y a1 12) <| fun r1 => if r1 ≤ l2 then (some ((-1))) else (bd1 (M12_of Y a1 (13 + l2)) <| fun r4 => bd1 (M12_of Y r4 17) <| fun r6 => if r6 = 2 then (M12_firstOpen_b2 Y a1 n (l2 + 1)) else (bd1 (M12_of Y a1 (13 + l2)) <| fun r9 => some r9))
noncomputable def M12_firstOpen (Y : Mem) (a1 : Int32) : Option (Int32) :=
  M12_firstOpen_b2 Y a1 FU 0
noncomputable def M12_isPredecessor_b2 (Y : Mem) (a1 : Int32) (a2 : Int32) : Nat → Int32 → Option (Int32)
  | 0, _ => none
  | n+1, l3 =>
  bd1 (M12_of Y a2 12) <| fun r1 => if r1 ≤ l3 then (some 0) else (bd1 (M12_of Y a2 (13 + l3)) <| fun r4 => if r4 = a1 then (some 1) else (M12_isPredecessor_b2 Y a1 a2 n (l3 + 1)))
noncomputable def M12_isPredecessor (Y : Mem) (a1 : Int32) (a2 : Int32) : Option (Int32) :=
  M12_isPredecessor_b2 Y a1 a2 FU 0
noncomputable def M12_hasSuccessor_b53 (Y : Mem) (a1 : Int32) (a2 : Int32) (a3 : Int32) (k5 : Int32 → Option (Int32)) (l4 : Int32) : Option (Int32) :=
  k5 (l4 + 1)
noncomputable def M12_hasSuccessor_b5 (Y : Mem) (a1 : Int32) (a2 : Int32) (a3 : Int32) : Nat → Int32 → Option (Int32)
  | 0, _ => none
  | n+1, l4 =>
  gd (inb 13 4202) <| if (Y 10 0 1 (ix 13)) ≤ l4 then (some 0) else (bd1 (M12_isPredecessor Y a1 l4) <| fun r5 => if r5 = 0 then (M12_hasSuccessor_b53 Y a1 a2 a3 (M12_hasSuccessor_b5 Y a1 a2 a3 n) l4) else (bd1 (M12_of Y l4 17) <| fun r8 => if r8 = a2 then (some 1) else (bd1 (M12_of Y l4 17) <| fun r11 => if r11 = a3 then (some 1) else (M12_hasSuccessor_b53 Y a1 a2 a3 (M12_hasSuccessor_b5 Y a1 a2 a3 n) l4))))
noncomputable def M12_hasSuccessor (Y : Mem) (a1 : Int32) (a2 : Int32) (a3 : Int32) : Option (Int32) :=
  lt_ (a1 + 1) <| fun v1 => M12_hasSuccessor_b5 Y a1 a2 a3 FU v1
noncomputable def M12_occupies_b45 (Y : Mem) (a1 : Int32) (a2 : Int32)  : Option (Int32) :=
  some 1
noncomputable def M12_occupies (Y : Mem) (a1 : Int32) (a2 : Int32) : Option (Int32) :=
  bd1 (M12_of Y a1 9) <| fun r1 => if r1 = a2 then (bd1 (M12_of Y a1 17) <| fun r4 => if r4 = 1 then (M12_occupies_b45 Y a1 a2) else (bd1 (M12_of Y a1 17) <| fun r7 => if r7 = 2 then (bd1 (M12_hasSuccessor Y a1 0 3) <| fun r10 => if r10 = 0 then (some 0) else (M12_occupies_b45 Y a1 a2)) else (some 0))) else (some 0)
noncomputable def M12_usedPans_b30 (Y : Mem) (a1 : Int32) (k4 : Int32 → Int32 → Option (Int32)) (l3 : Int32) (s0 : Int32) (s1 : Int32) : Option (Int32) :=
  lt_ (s1 + s0) <| fun v6 => k4 (l3 + 1) v6
noncomputable def M12_usedPans_b4 (Y : Mem) (a1 : Int32) : Nat → Int32 → Int32 → Option (Int32)
  | 0, _, _ => none
  | n+1, l3, l2 =>
  gd (inb 13 4202) <| if (Y 10 0 1 (ix 13)) ≤ l3 then (some l2) else (bd1 (M12_occupies Y l3 a1) <| fun r3 => if r3 = 0 then (M12_usedPans_b30 Y a1 (M12_usedPans_b4 Y a1 n) l3 0 l2) else (M12_usedPans_b30 Y a1 (M12_usedPans_b4 Y a1 n) l3 1 l2))
noncomputable def M12_usedPans (Y : Mem) (a1 : Int32) : Option (Int32) :=
  M12_usedPans_b4 Y a1 FU 0 0
noncomputable def M12_capacity (Y : Mem) (a1 : Int32) : Option (Int32) :=
  gd (inb ((14 + (a1 * 8)) + 7) 4202) <| some (Y 10 0 1 (ix ((14 + (a1 * 8)) + 7)))
noncomputable def M12_hasPan_b26 (Y : Mem) (a1 : Int32)  : Option (Int32) :=
  some 1
noncomputable def M12_hasPan (Y : Mem) (a1 : Int32) : Option (Int32) :=
  bd1 (M12_of Y a1 9) <| fun r1 => if r1 = ((-1)) then (M12_hasPan_b26 Y a1) else (bd1 (M12_usedPans Y r1) <| fun r4 => bd1 (M12_capacity Y r1) <| fun r6 => if r6 ≤ r4 then (some 0) else (M12_hasPan_b26 Y a1))
noncomputable def M12_isCooked (Y : Mem) (a1 : Int32) : Option (Int32) :=
  bd1 (M12_of Y a1 17) <| fun r1 => if r1 = 1 then (bd1 (M12_of Y a1 11) <| fun r4 => if r4 = 0 then (some 1) else (some 0)) else (some 0)
noncomputable def M12_hasCook_b58 (Y : Mem) (a1 : Int32)  : Option (Int32) :=
  some 1
noncomputable def M12_hasCook_b29 (Y : Mem) (a1 : Int32) (k4 : Int32 → Int32 → Option (Int32)) (l3 : Int32) (s0 : Int32) (s1 : Int32) : Option (Int32) :=
  lt_ (s1 + s0) <| fun v11 => k4 (l3 + 1) v11
noncomputable def M12_hasCook_b4 (Y : Mem) (a1 : Int32) : Nat → Int32 → Int32 → Option (Int32)
  | 0, _, _ => none
  | n+1, l3, l2 =>
  gd (inb 13 4202) <| if (Y 10 0 1 (ix 13)) ≤ l3 then (bd1 (M12_of Y a1 11) <| fun r3 => if r3 = 1 then (M12_hasCook_b58 Y a1) else (gd (inb 0 4202) <| if (Y 10 0 1 (ix 0)) ≤ l2 then (some 0) else (M12_hasCook_b58 Y a1))) else (bd1 (M12_isCooked Y l3) <| fun r8 => if r8 = 0 then (M12_hasCook_b29 Y a1 (M12_hasCook_b4 Y a1 n) l3 0 l2) else (M12_hasCook_b29 Y a1 (M12_hasCook_b4 Y a1 n) l3 1 l2))
noncomputable def M12_hasCook (Y : Mem) (a1 : Int32) : Option (Int32) :=
  M12_hasCook_b4 Y a1 FU 0 0
noncomputable def M12_reasonFor (Y : Mem) (a1 : Int32) : Option (Int32) :=
  bd1 (M12_of Y a1 17) <| fun r1 => if r1 = 1 then (some 0) else (bd1 (M12_of Y a1 17) <| fun r4 => if r4 = 2 then (some 1) else (bd1 (M12_firstOpen Y a1) <| fun r7 => if r7 = ((-1)) then (bd1 (M12_hasPan Y a1) <| fun r10 => if r10 = 0 then (some 3) else (bd1 (M12_hasCook Y a1) <| fun r13 => if r13 = 0 then (some 4) else (some 5))) else (some 2)))
noncomputable def M12_blocker_b65 (Y : Mem) (a1 : Int32) (k19 : Int32 → Int32 → Option (Int32)) (l3 : Int32) (l2 : Int32) : Option (Int32) :=
  k19 (l3 + 1) l2
noncomputable def M12_blocker_b50 (Y : Mem) (a1 : Int32) (k19 : Int32 → Int32 → Option (Int32)) (l3 : Int32) (l2 : Int32) : Option (Int32) :=
  if l2 = 4 then (bd1 (M12_isCooked Y l3) <| fun r8 => if r8 = 0 then (M12_blocker_b65 Y a1 k19 l3 l2) else (some l3)) else (M12_blocker_b65 Y a1 k19 l3 l2)
noncomputable def M12_blocker_b19 (Y : Mem) (a1 : Int32) : Nat → Int32 → Int32 → Option (Int32)
  | 0, _, _ => none
  | n+1, l3, l2 =>
  gd (inb 13 4202) <| if (Y 10 0 1 (ix 13)) ≤ l3 then (some ((-1))) else (if l2 = 3 then (bd1 (M12_of Y a1 9) <| fun r11 => bd1 (M12_occupies Y l3 r11) <| fun r13 => if r13 = 0 then (M12_blocker_b50 Y a1 (M12_blocker_b19 Y a1 n) l3 l2) else (some l3)) else (M12_blocker_b50 Y a1 (M12_blocker_b19 Y a1 n) l3 l2))
noncomputable def M12_blocker (Y : Mem) (a1 : Int32) : Option (Int32) :=
  bd1 (M12_reasonFor Y a1) <| fun r1 => if r1 = 2 then (bd1 (M12_firstOpen Y a1) <| fun r16 => some r16) else (M12_blocker_b19 Y a1 FU 0 r1)
noncomputable def M12_blockingStep_b14 (a1 : Int32) (Y : Mem) (s0 : Int32) : Option (Int32 × Mem) :=
  bd2 (M12_fails Y s0 0 0) <| fun r4 Y6 => if r4 = 0 then (bd1 (M12_blocker Y6 a1) <| fun r8 => some (r8, Y6)) else (some (0, Y6))
noncomputable def M12_blockingStep (Y : Mem) (a1 : Int32) : Option (Int32 × Mem) :=
  bd1 (M12_isStep Y a1) <| fun r1 => if r1 = 0 then (M12_blockingStep_b14 a1 Y 1) else (M12_blockingStep_b14 a1 Y 0)
noncomputable def M12_withStatus_b32 (Y : Mem) (a1 : Int32) (k4 : Int32 → Int32 → Option (Int32)) (l3 : Int32) (s0 : Int32) (s1 : Int32) : Option (Int32) :=
  lt_ (s1 + s0) <| fun v6 => k4 (l3 + 1) v6
noncomputable def M12_withStatus_b4 (Y : Mem) (a1 : Int32) : Nat → Int32 → Int32 → Option (Int32)
  | 0, _, _ => none
  | n+1, l3, l2 =>
  gd (inb 13 4202) <| if (Y 10 0 1 (ix 13)) ≤ l3 then (some l2) else (bd1 (M12_of Y l3 17) <| fun r3 => if r3 = a1 then (M12_withStatus_b32 Y a1 (M12_withStatus_b4 Y a1 n) l3 1 l2) else (M12_withStatus_b32 Y a1 (M12_withStatus_b4 Y a1 n) l3 0 l2))
noncomputable def M12_withStatus (Y : Mem) (a1 : Int32) : Option (Int32) :=
  M12_withStatus_b4 Y a1 FU 0 0
noncomputable def M12_isFinished (Y : Mem) : Option (Int32) :=
  bd1 (M12_withStatus Y 2) <| fun r1 => gd (inb 13 4202) <| if r1 = (Y 10 0 1 (ix 13)) then (some 1) else (some 0)
noncomputable def M12_set (Y : Mem) (a1 : Int32) (a2 : Int32) (a3 : Int32) : Option (Mem) :=
  gd (inb ((46 + (a1 * 24)) + a2) 4202) <| lt_ (up Y 10 0 1 (ix ((46 + (a1 * 24)) + a2)) a3) <| fun Y2 => some Y2
noncomputable def M12_work (Y : Mem) (a1 : Int32) : Option (Mem) :=
  bd1 (M12_set Y a1 23 0) <| fun Y3 => bd1 (M12_of Y3 a1 17) <| fun r4 => if r4 = 1 then (gd (inb 10 4202) <| bd1 (M12_of Y3 a1 11) <| fun r8 => lt_ (up Y3 10 0 1 (ix 10) ((Y3 10 0 1 (ix 10)) + (1 - r8))) <| fun Y10 => bd1 (M12_of Y10 a1 18) <| fun r12 => bd1 (M12_set Y10 a1 18 (r12 - 1)) <| fun Y16 => bd1 (M12_of Y16 a1 18) <| fun r17 => if r17 ≤ 0 then (bd1 (M12_set Y16 a1 17 2) <| fun Y22 => bd1 (M12_set Y22 a1 19 0) <| fun Y25 => bd1 (M12_set Y25 a1 21 1) <| fun Y28 => bd1 (M12_set Y28 a1 23 1) <| fun Y31 => gd (inb 8 4202) <| lt_ (up Y31 10 0 1 (ix 8) ((Y31 10 0 1 (ix 8)) + 1)) <| fun Y33 => some Y33) else (some Y16)) else (some Y3)
noncomputable def M12_isTaken (Y : Mem) (a1 : Int32) : Option (Int32) :=
  bd1 (M12_of Y a1 17) <| fun r1 => if r1 = 2 then (bd1 (M12_hasSuccessor Y a1 1 2) <| fun r4 => if r4 = 0 then (some 0) else (some 1)) else (some 0)
noncomputable def M12_cool (Y : Mem) (a1 : Int32) : Option (Mem) :=
  bd1 (M12_of Y a1 10) <| fun r1 => if r1 = 0 then (some Y) else (bd1 (M12_of Y a1 17) <| fun r4 => if r4 = 2 then (bd1 (M12_of Y a1 23) <| fun r7 => if r7 = 1 then (some Y) else (bd1 (M12_isTaken Y a1) <| fun r10 => if r10 = 0 then (bd1 (M12_of Y a1 19) <| fun r13 => bd1 (M12_set Y a1 19 (r13 + 1)) <| fun Y17 => bd1 (M12_of Y17 a1 19) <| fun r18 => gd (inb 1 4202) <| if (Y17 10 0 1 (ix 1)) < r18 then (bd1 (M12_set Y17 a1 17 3) <| fun Y24 => bd1 (M12_set Y24 a1 19 0) <| fun Y27 => bd1 (M12_of Y27 a1 22) <| fun r28 => bd1 (M12_set Y27 a1 22 (r28 + 1)) <| fun Y32 => gd (inb 9 4202) <| lt_ (up Y32 10 0 1 (ix 9) ((Y32 10 0 1 (ix 9)) + 1)) <| fun Y34 => some Y34) else (some Y17)) else (some Y))) else (some Y))
noncomputable def M12_computePaths_b57  (k20 : Mem → Int32 → Int32 → Int32 → Option (Mem)) (Y : Mem) (l3 : Int32) (l2 : Int32) (l1 : Int32) : Option (Mem) :=
  k20 Y (l3 + 1) l2 l1
noncomputable def M12_computePaths_b20  (k10 : Mem → Int32 → Option (Mem)) : Nat → Mem → Int32 → Int32 → Int32 → Option (Mem)
  | 0, _, _, _, _ => none
  | n+1, Y, l3, l2, l1 =>
  gd (inb 13 4202) <| if (Y 10 0 1 (ix 13)) ≤ l3 then (bd1 (M12_of Y l1 7) <| fun r9 => gd (inb l1 14) <| lt_ (up Y 10 0 5 (ix l1) (r9 + l2)) <| fun Y12 => k10 Y12 (l1 + (-1))) else (bd1 (M12_isPredecessor Y l1 l3) <| fun r14 => if r14 = 0 then (M12_computePaths_b57 (M12_computePaths_b20 k10 n) Y l3 l2 l1) else (gd (inb l3 14) <| if (Y 10 0 5 (ix l3)) ≤ l2 then (M12_computePaths_b57 (M12_computePaths_b20 k10 n) Y l3 l2 l1) else (lt_ (Y 10 0 5 (ix l3)) <| fun v19 => M12_computePaths_b57 (M12_computePaths_b20 k10 n) Y l3 v19 l1)))
noncomputable def M12_computePaths_b10  : Nat → Mem → Int32 → Option (Mem)
  | 0, _, _ => none
  | n+1, Y, l1 =>
  if l1 < 0 then (some Y) else (lt_ (l1 + 1) <| fun v5 => M12_computePaths_b20 (M12_computePaths_b10 n) FU Y v5 0 l1)
noncomputable def M12_computePaths (Y : Mem) : Option (Mem) :=
  gd (inb 13 4202) <| lt_ ((Y 10 0 1 (ix 13)) - 1) <| fun v2 => M12_computePaths_b10 FU Y v2
noncomputable def M12_isReady (Y : Mem) (a1 : Int32) : Option (Int32) :=
  bd1 (M12_of Y a1 17) <| fun r1 => if r1 = 1 then (some 0) else (bd1 (M12_of Y a1 17) <| fun r4 => if r4 = 2 then (some 0) else (bd1 (M12_firstOpen Y a1) <| fun r7 => if r7 = ((-1)) then (some 1) else (some 0)))
noncomputable def M12_queueReady_b88  (k8 : Mem → Int32 → Int32 → Option (Int32 × Mem)) (Y : Mem) (l1 : Int32) (l2 : Int32) : Option (Int32 × Mem) :=
  k8 Y (l2 + 1) l1
noncomputable def M12_queueReady_b78  (k8 : Mem → Int32 → Int32 → Option (Int32 × Mem)) (Y : Mem) (l3 : Int32) (l2 : Int32) (l1 : Int32) : Option (Int32 × Mem) :=
  gd (inb l3 14) <| lt_ (up Y 10 0 8 (ix l3) l2) <| fun Y11 => M12_queueReady_b88 k8 Y11 (l1 + 1) l2
noncomputable def M12_queueReady_b32  (k8 : Mem → Int32 → Int32 → Option (Int32 × Mem)) : Nat → Mem → Int32 → Int32 → Int32 → Option (Int32 × Mem)
  | 0, _, _, _, _ => none
  | n+1, Y, l3, l2, l1 =>
  if l3 ≤ 0 then (M12_queueReady_b78 k8 Y l3 l2 l1) else (gd (inb (l3 - 1) 14) <| gd (inb (Y 10 0 8 (ix (l3 - 1))) 14) <| gd (inb l2 14) <| if (Y 10 0 5 (ix l2)) ≤ (Y 10 0 5 (ix (Y 10 0 8 (ix (l3 - 1))))) then (M12_queueReady_b78 k8 Y l3 l2 l1) else (gd (inb l3 14) <| lt_ (up Y 10 0 8 (ix l3) (Y 10 0 8 (ix (l3 - 1)))) <| fun Y18 => M12_queueReady_b32 k8 n Y18 (l3 + (-1)) l2 l1))
noncomputable def M12_queueReady_b8  : Nat → Mem → Int32 → Int32 → Option (Int32 × Mem)
  | 0, _, _, _ => none
  | n+1, Y, l2, l1 =>
  gd (inb 13 4202) <| if (Y 10 0 1 (ix 13)) ≤ l2 then (some (l1, Y)) else (bd1 (M12_isReady Y l2) <| fun r6 => if r6 = 0 then (M12_queueReady_b88 (M12_queueReady_b8 n) Y l1 l2) else (M12_queueReady_b32 (M12_queueReady_b8 n) FU Y l1 l2 l1))
noncomputable def M12_queueReady (Y : Mem) : Option (Int32 × Mem) :=
  bd1 (M12_computePaths Y) <| fun Y3 => M12_queueReady_b8 FU Y3 0 0
noncomputable def M12_startIfPossible (Y : Mem) (a1 : Int32) : Option (Mem) :=
  bd1 (M12_hasCook Y a1) <| fun r1 => if r1 = 0 then (some Y) else (bd1 (M12_hasPan Y a1) <| fun r4 => if r4 = 0 then (some Y) else (bd1 (M12_set Y a1 17 1) <| fun Y9 => bd1 (M12_of Y9 a1 7) <| fun r10 => bd1 (M12_set Y9 a1 18 r10) <| fun Y14 => bd1 (M12_of Y14 a1 20) <| fun r15 => bd1 (M12_set Y14 a1 20 (r15 + 1)) <| fun Y19 => gd (inb 7 4202) <| lt_ (up Y19 10 0 1 (ix 7) ((Y19 10 0 1 (ix 7)) + 1)) <| fun Y21 => some Y21))
noncomputable def M12_passMinute_b86  (Y : Mem) : Option (Mem) :=
  gd (inb 4 4202) <| lt_ (up Y 10 0 1 (ix 4) ((Y 10 0 1 (ix 4)) + 1)) <| fun Y4 => some Y4
noncomputable def M12_passMinute_b65  : Nat → Mem → Int32 → Int32 → Option (Mem)
  | 0, _, _, _ => none
  | n+1, Y, l2, l1 =>
  if l1 ≤ l2 then (M12_passMinute_b86 Y) else (gd (inb l2 14) <| bd1 (M12_startIfPossible Y (Y 10 0 8 (ix l2))) <| fun Y17 => M12_passMinute_b65 n Y17 (l2 + 1) l1)
noncomputable def M12_passMinute_b36  : Nat → Mem → Int32 → Option (Mem)
  | 0, _, _ => none
  | n+1, Y, l1 =>
  gd (inb 13 4202) <| if (Y 10 0 1 (ix 13)) ≤ l1 then (bd2 (M12_queueReady Y) <| fun r10 Y12 => M12_passMinute_b65 FU Y12 0 r10) else (bd1 (M12_cool Y l1) <| fun Y20 => M12_passMinute_b36 n Y20 (l1 + 1))
noncomputable def M12_passMinute_b12  : Nat → Mem → Int32 → Option (Mem)
  | 0, _, _ => none
  | n+1, Y, l1 =>
  gd (inb 13 4202) <| if (Y 10 0 1 (ix 13)) ≤ l1 then (M12_passMinute_b36 FU Y 0) else (bd1 (M12_work Y l1) <| fun Y23 => M12_passMinute_b12 n Y23 (l1 + 1))
noncomputable def M12_passMinute (Y : Mem) : Option (Mem) :=
  gd (inb 6 4202) <| if (Y 10 0 1 (ix 6)) = 0 then (M12_passMinute_b12 FU Y 0) else (M12_passMinute_b86 Y)
noncomputable def M12_simulate_b26  (Y : Mem) (l1 : Int32) : Option (Int32 × Mem) :=
  bd1 (M12_isFinished Y) <| fun r2 => if r2 = 0 then (some ((-1), Y)) else (some (l1, Y))
noncomputable def M12_simulate_b2  : Nat → Mem → Int32 → Option (Int32 × Mem)
  | 0, _, _ => none
  | n+1, Y, l1 =>
  if 500 ≤ l1 then (M12_simulate_b26 Y l1) else (bd1 (M12_isFinished Y) <| fun r5 => if r5 = 0 then (bd1 (M12_passMinute Y) <| fun Y10 => M12_simulate_b2 n Y10 (l1 + 1)) else (M12_simulate_b26 Y l1))
noncomputable def M12_simulate (Y : Mem) : Option (Int32 × Mem) :=
  M12_simulate_b2 FU Y 0
noncomputable def M12_bottleneck_b128  (k28 : Mem → Int32 → Int32 → Int32 → Option (Int32 × Mem)) (Y : Mem) (l2 : Int32) (l1 : Int32) (l3 : Int32) : Option (Int32 × Mem) :=
  k28 Y (l3 + 1) l2 l1
noncomputable def M12_bottleneck_b123  (k28 : Mem → Int32 → Int32 → Int32 → Option (Int32 × Mem)) (Y : Mem) (l4 : Int32) (l3 : Int32) : Option (Int32 × Mem) :=
  M12_bottleneck_b128 k28 Y l4 l3 l3
noncomputable def M12_bottleneck_b107  (k28 : Mem → Int32 → Int32 → Int32 → Option (Int32 × Mem)) (Y : Mem) (l3 : Int32) (l2 : Int32) (l1 : Int32) (s0 : Int32) : Option (Int32 × Mem) :=
  if l1 = ((-1)) then (M12_bottleneck_b123 k28 Y s0 l3) else (if s0 < l2 then (M12_bottleneck_b123 k28 Y s0 l3) else (M12_bottleneck_b128 k28 Y l2 l1 l3))
noncomputable def M12_bottleneck_b80  (k28 : Mem → Int32 → Int32 → Int32 → Option (Int32 × Mem)) (Y : Mem) (l3 : Int32) (l2 : Int32) (l1 : Int32) : Option (Int32 × Mem) :=
  bd2 (M12_simulate Y) <| fun r18 Y20 => bd1 (M12_copyBlock Y20 10 0) <| fun Y23 => if r18 = ((-1)) then (M12_bottleneck_b107 k28 Y23 l3 l2 l1 501) else (M12_bottleneck_b107 k28 Y23 l3 l2 l1 r18)
noncomputable def M12_bottleneck_b28  : Nat → Mem → Int32 → Int32 → Int32 → Option (Int32 × Mem)
  | 0, _, _, _, _ => none
  | n+1, Y, l3, l2, l1 =>
  gd (inb 13 4202) <| if (Y 10 0 1 (ix 13)) ≤ l3 then (some (l1, Y)) else (bd1 (M12_of Y l3 17) <| fun r12 => if r12 = 2 then (M12_bottleneck_b128 (M12_bottleneck_b28 n) Y l2 l1 l3) else (bd1 (M12_of Y l3 7) <| fun r15 => if r15 ≤ 1 then (M12_bottleneck_b80 (M12_bottleneck_b28 n) Y l3 l2 l1) else (bd1 (M12_of Y l3 7) <| fun r27 => bd1 (M12_set Y l3 7 (r27 - 1)) <| fun Y31 => M12_bottleneck_b80 (M12_bottleneck_b28 n) Y31 l3 l2 l1)))
noncomputable def M12_bottleneck (Y : Mem) : Option (Int32 × Mem) :=
  bd1 (M12_isFinished Y) <| fun r1 => bd2 (M12_fails Y r1 0 0) <| fun r3 Y5 => if r3 = 0 then (bd1 (M12_copyBlock Y5 0 10) <| fun Y9 => M12_bottleneck_b28 FU Y9 0 0 ((-1))) else (some (0, Y5))
noncomputable def M12_plain (Y : Mem) (a1 : Int32) : Option (Int32 × Mem) :=
  lt_ (up Y 10 0 0 9 0) <| fun Y1 => some (a1, Y1)
noncomputable def M12_burns (Y : Mem) : Option (Int32 × Mem) :=
  gd (inb 9 4202) <| bd2 (M12_plain Y (Y 10 0 1 (ix 9))) <| fun r2 Y4 => some (r2, Y4)
noncomputable def M12_canRedo (Y : Mem) (a1 : Int32) : Option (Int32) :=
  bd1 (M12_of Y a1 17) <| fun r1 => if r1 = 2 then (bd1 (M12_isTaken Y a1) <| fun r4 => if r4 = 0 then (gd (inb 6 4202) <| if (Y 10 0 1 (ix 6)) = 0 then (some 1) else (some 0)) else (some 0)) else (some 0)
noncomputable def M12_servingReason (Y : Mem) : Option (Int32) :=
  gd (inb 6 4202) <| if (Y 10 0 1 (ix 6)) = 1 then (some 1) else (bd1 (M12_withStatus Y 3) <| fun r3 => if r3 ≤ 0 then (bd1 (M12_isFinished Y) <| fun r6 => if r6 = 0 then (some 3) else (bd1 (M12_tasteNow Y) <| fun r9 => gd (inb 2 4202) <| if (Y 10 0 1 (ix 2)) ≤ r9 then (bd1 (M12_tasteNow Y) <| fun r13 => gd (inb 3 4202) <| if r13 ≤ (Y 10 0 1 (ix 3)) then (some 0) else (some 5)) else (some 4))) else (some 2))
noncomputable def M12_canDo (Y : Mem) (a1 : Int32) (a2 : Int32) (a3 : Int32) : Option (Int32) :=
  if a1 = 0 then (bd1 (M12_in Y a2 1 200) <| fun r2 => if r2 = 0 then (some 0) else (gd (inb 4 4202) <| if 9999 < ((Y 10 0 1 (ix 4)) + a2) then (some 0) else (some 1))) else (if a1 = 1 then (bd1 (M12_in Y a2 1 9) <| fun r8 => if r8 = 0 then (some 0) else (gd (inb 6 4202) <| if (Y 10 0 1 (ix 6)) = 0 then (some 1) else (some 0))) else (if a1 = 2 then (bd1 (M12_in Y a2 1 9) <| fun r14 => if r14 = 0 then (some 0) else (gd (inb 6 4202) <| if (Y 10 0 1 (ix 6)) = 0 then (some 1) else (some 0))) else (if a1 = 3 then (bd1 (M12_of Y a2 17) <| fun r20 => if r20 = 1 then (some 1) else (some 0)) else (if a1 = 4 then (bd1 (M12_canRedo Y a2) <| fun r24 => gd (decide (r24 = 0 ∨ r24 = 1)) <| some r24) else (if a1 = 5 then (bd1 (M12_in Y a2 1 4) <| fun r28 => gd (decide (r28 = 0 ∨ r28 = 1)) <| some r28) else (if a1 = 6 then (bd1 (M12_in Y a3 1 60) <| fun r32 => gd (decide (r32 = 0 ∨ r32 = 1)) <| some r32) else (bd1 (M12_servingReason Y) <| fun r35 => if r35 = 0 then (some 1) else (some 0))))))))
noncomputable def M12_nameOf (Y : Mem) (a0 : Int32) : Option (Nat) :=
  if a0 = 0 then (some 8) else (if a0 = 1 then (some 9) else (if a0 = 2 then (some 10) else (if a0 = 3 then (some 11) else (if a0 = 4 then (some 12) else (if a0 = 5 then (some 13) else (if a0 = 6 then (some 14) else (some 15)))))))
noncomputable def M12_isWord_b28 (Y : Mem) (w1 : Nat) : Nat → Int32 → Option (Int32)
  | 0, _ => none
  | n+1, l2 =>
  gd (decide (w1 < 16)) <| bd1 (J0_length_8abf5 Y w1) <| fun r7 => if r7 ≤ l2 then (some 1) else (gd (inb ((Y 10 0 0 16) + l2) 700) <| bd1 (J0_charAt_5068e Y w1 l2) <| fun r11 => if (Y 10 0 3 (ix ((Y 10 0 0 16) + l2))) = r11 then (M12_isWord_b28 Y w1 n (l2 + 1)) else (some 0))
noncomputable def M12_isWord (Y : Mem) (w1 : Nat) : Option (Int32) :=
  if (Y 10 0 0 15) = 1 then (gd (decide (w1 < 16)) <| bd1 (J0_length_8abf5 Y w1) <| fun r3 => if ((Y 10 0 0 14) - (Y 10 0 0 16)) = r3 then (M12_isWord_b28 Y w1 FU 0) else (some 0)) else (some 0)
noncomputable def M12_commandHere_b2 (Y : Mem) : Nat → Int32 → Option (Int32)
  | 0, _ => none
  | n+1, l1 =>
  if 7 < l1 then (some ((-1))) else (bd1 (M12_nameOf Y l1) <| fun r2 => bd1 (M12_isWord Y r2) <| fun r4 => if r4 = 0 then (M12_commandHere_b2 Y n (l1 + 1)) else (some l1))
noncomputable def M12_commandHere (Y : Mem) : Option (Int32) :=
  M12_commandHere_b2 Y FU 0
noncomputable def M12_completions (Y : Mem) : Option (Int32 × Mem) :=
  gd (inb 8 4202) <| bd2 (M12_plain Y (Y 10 0 1 (ix 8))) <| fun r2 Y4 => some (r2, Y4)
noncomputable def M12_computeHeads_b86  (k22 : Mem → Int32 → Int32 → Option (Mem)) (Y : Mem) (l2 : Int32) (l1 : Int32) : Option (Mem) :=
  k22 Y (l2 + 1) l1
noncomputable def M12_computeHeads_b22  (k2 : Mem → Int32 → Option (Mem)) : Nat → Mem → Int32 → Int32 → Option (Mem)
  | 0, _, _, _ => none
  | n+1, Y, l2, l1 =>
  bd1 (M12_of Y l1 12) <| fun r6 => if r6 ≤ l2 then (k2 Y (l1 + 1)) else (bd1 (M12_of Y l1 (13 + l2)) <| fun r9 => gd (inb r9 14) <| bd1 (M12_of Y r9 7) <| fun r12 => gd (inb l1 14) <| if ((Y 10 0 6 (ix r9)) + r12) ≤ (Y 10 0 6 (ix l1)) then (M12_computeHeads_b86 (M12_computeHeads_b22 k2 n) Y l2 l1) else (bd1 (M12_of Y r9 7) <| fun r16 => lt_ (up Y 10 0 6 (ix l1) ((Y 10 0 6 (ix r9)) + r16)) <| fun Y18 => M12_computeHeads_b86 (M12_computeHeads_b22 k2 n) Y18 l2 l1))
noncomputable def M12_computeHeads_b2  : Nat → Mem → Int32 → Option (Mem)
  | 0, _, _ => none
  | n+1, Y, l1 =>
  gd (inb 13 4202) <| if (Y 10 0 1 (ix 13)) ≤ l1 then (some Y) else (gd (inb l1 14) <| lt_ (up Y 10 0 6 (ix l1) 0) <| fun Y4 => M12_computeHeads_b22 (M12_computeHeads_b2 n) FU Y4 0 l1)
noncomputable def M12_computeHeads (Y : Mem) : Option (Mem) :=
  M12_computeHeads_b2 FU Y 0
noncomputable def M12_cookMinutes (Y : Mem) : Option (Int32 × Mem) :=
  gd (inb 10 4202) <| bd2 (M12_plain Y (Y 10 0 1 (ix 10))) <| fun r2 Y4 => some (r2, Y4)
noncomputable def M12_cooks (Y : Mem) : Option (Int32 × Mem) :=
  gd (inb 0 4202) <| bd2 (M12_plain Y (Y 10 0 1 (ix 0))) <| fun r2 Y4 => some (r2, Y4)
noncomputable def M12_countWithStatus_b15 (a1 : Int32) (Y : Mem) (s0 : Int32) : Option (Int32 × Mem) :=
  bd2 (M12_fails Y s0 0 0) <| fun r4 Y6 => if r4 = 0 then (bd1 (M12_withStatus Y6 a1) <| fun r8 => some (r8, Y6)) else (some (0, Y6))
noncomputable def M12_countWithStatus (Y : Mem) (a1 : Int32) : Option (Int32 × Mem) :=
  bd1 (M12_in Y a1 0 3) <| fun r1 => if r1 = 0 then (M12_countWithStatus_b15 a1 Y 1) else (M12_countWithStatus_b15 a1 Y 0)
noncomputable def M12_criticalStep_b89 (a1 : Int32) (k24 : Mem → Int32 → Int32 → Int32 → Int32 → Option (Int32 × Mem)) (Y : Mem) (l5 : Int32) (l4 : Int32) (l3 : Int32) (l2 : Int32) : Option (Int32 × Mem) :=
  k24 Y (l5 + 1) l4 l3 l2
noncomputable def M12_criticalStep_b85 (a1 : Int32) (k24 : Mem → Int32 → Int32 → Int32 → Int32 → Option (Int32 × Mem)) (Y : Mem) (l5 : Int32) (l3 : Int32) (l2 : Int32) : Option (Int32 × Mem) :=
  M12_criticalStep_b89 a1 k24 Y l5 l5 l3 l2
noncomputable def M12_criticalStep_b55 (a1 : Int32) (k24 : Mem → Int32 → Int32 → Int32 → Int32 → Option (Int32 × Mem)) (Y : Mem) (l5 : Int32) (l4 : Int32) (l3 : Int32) (l2 : Int32) (s0 : Int32) : Option (Int32 × Mem) :=
  if s0 = 0 then (M12_criticalStep_b89 a1 k24 Y l5 l4 l3 l2) else (if l4 = ((-1)) then (M12_criticalStep_b85 a1 k24 Y l5 l3 l2) else (gd (inb l5 14) <| gd (inb l4 14) <| if (Y 10 0 5 (ix l5)) ≤ (Y 10 0 5 (ix l4)) then (M12_criticalStep_b89 a1 k24 Y l5 l4 l3 l2) else (M12_criticalStep_b85 a1 k24 Y l5 l3 l2)))
noncomputable def M12_criticalStep_b50 (a1 : Int32) (k24 : Mem → Int32 → Int32 → Int32 → Int32 → Option (Int32 × Mem)) (Y : Mem) (l5 : Int32) (l4 : Int32) (l3 : Int32) (l2 : Int32) : Option (Int32 × Mem) :=
  M12_criticalStep_b55 a1 k24 Y l5 l4 l3 l2 1
noncomputable def M12_criticalStep_b24 (a1 : Int32) (k13 : Mem → Int32 → Int32 → Option (Int32 × Mem)) : Nat → Mem → Int32 → Int32 → Int32 → Int32 → Option (Int32 × Mem)
  | 0, _, _, _, _, _ => none
  | n+1, Y, l5, l4, l3, l2 =>
  gd (inb 13 4202) <| if (Y 10 0 1 (ix 13)) ≤ l5 then (if l4 = ((-1)) then (some ((-1), Y)) else (k13 Y (l3 + 1) l4)) else (if l3 = 0 then (M12_criticalStep_b50 a1 (M12_criticalStep_b24 a1 k13 n) Y l5 l4 l3 l2) else (bd1 (M12_isPredecessor Y l2 l5) <| fun r16 => if r16 = 0 then (M12_criticalStep_b55 a1 (M12_criticalStep_b24 a1 k13 n) Y l5 l4 l3 l2 0) else (M12_criticalStep_b50 a1 (M12_criticalStep_b24 a1 k13 n) Y l5 l4 l3 l2)))
noncomputable def M12_criticalStep_b13 (a1 : Int32) : Nat → Mem → Int32 → Int32 → Option (Int32 × Mem)
  | 0, _, _, _ => none
  | n+1, Y, l3, l2 =>
  if a1 < l3 then (some (l2, Y)) else (M12_criticalStep_b24 a1 (M12_criticalStep_b13 a1 n) FU Y 0 ((-1)) l3 l2)
noncomputable def M12_criticalStep (Y : Mem) (a1 : Int32) : Option (Int32 × Mem) :=
  lt_ (up Y 10 0 0 9 0) <| fun Y1 => bd1 (M12_computePaths Y1) <| fun Y5 => M12_criticalStep_b13 a1 FU Y5 0 ((-1))
noncomputable def M12_dependsOn_b117 (a1 : Int32) (a2 : Int32) (k67 : Mem → Int32 → Option (Int32 × Mem)) (Y : Mem) (l3 : Int32) : Option (Int32 × Mem) :=
  k67 Y (l3 + (-1))
noncomputable def M12_dependsOn_b74 (a1 : Int32) (a2 : Int32) (k67 : Mem → Int32 → Option (Int32 × Mem)) : Nat → Mem → Int32 → Int32 → Option (Int32 × Mem)
  | 0, _, _, _ => none
  | n+1, Y, l4, l3 =>
  gd (inb l3 14) <| if (Y 10 0 7 (ix l3)) = 0 then (M12_dependsOn_b117 a1 a2 k67 Y l3) else (bd1 (M12_of Y l3 12) <| fun r19 => if r19 ≤ l4 then (M12_dependsOn_b117 a1 a2 k67 Y l3) else (bd1 (M12_of Y l3 (13 + l4)) <| fun r22 => gd (inb r22 14) <| lt_ (up Y 10 0 7 (ix r22) (vp_nar .boolean 1)) <| fun Y25 => M12_dependsOn_b74 a1 a2 k67 n Y25 (l4 + 1) l3))
noncomputable def M12_dependsOn_b67 (a1 : Int32) (a2 : Int32) : Nat → Mem → Int32 → Option (Int32 × Mem)
  | 0, _, _ => none
  | n+1, Y, l3 =>
  if l3 < 0 then (if a1 = a2 then (some (0, Y)) else (gd (inb a2 14) <| if (Y 10 0 7 (ix a2)) = 0 then (some (0, Y)) else (some (1, Y)))) else (M12_dependsOn_b74 a1 a2 (M12_dependsOn_b67 a1 a2 n) FU Y 0 l3)
noncomputable def M12_dependsOn_b34 (a1 : Int32) (a2 : Int32) : Nat → Mem → Int32 → Option (Int32 × Mem)
  | 0, _, _ => none
  | n+1, Y, l3 =>
  gd (inb 13 4202) <| if (Y 10 0 1 (ix 13)) ≤ l3 then (gd (inb a1 14) <| lt_ (up Y 10 0 7 (ix a1) (vp_nar .boolean 1)) <| fun Y11 => M12_dependsOn_b67 a1 a2 FU Y11 a1) else (gd (inb l3 14) <| lt_ (up Y 10 0 7 (ix l3) (vp_nar .boolean 0)) <| fun Y28 => M12_dependsOn_b34 a1 a2 n Y28 (l3 + 1))
noncomputable def M12_dependsOn_b22 (a1 : Int32) (a2 : Int32) (Y : Mem) (s0 : Int32) : Option (Int32 × Mem) :=
  bd2 (M12_fails Y s0 0 0) <| fun r4 Y6 => if r4 = 0 then (M12_dependsOn_b34 a1 a2 FU Y6 0) else (some (0, Y6))
noncomputable def M12_dependsOn_b17 (a1 : Int32) (a2 : Int32) (Y : Mem) : Option (Int32 × Mem) :=
  M12_dependsOn_b22 a1 a2 Y 1
noncomputable def M12_dependsOn (Y : Mem) (a1 : Int32) (a2 : Int32) : Option (Int32 × Mem) :=
  bd1 (M12_isStep Y a1) <| fun r1 => if r1 = 0 then (M12_dependsOn_b17 a1 a2 Y) else (bd1 (M12_isStep Y a2) <| fun r30 => if r30 = 0 then (M12_dependsOn_b17 a1 a2 Y) else (M12_dependsOn_b22 a1 a2 Y 0))
noncomputable def M12_passMinutes_b10 (a1 : Int32) : Nat → Mem → Int32 → Int32 → Option (Int32 × Mem)
  | 0, _, _, _ => none
  | n+1, Y, l3, l2 =>
  if a1 ≤ l3 then (gd (inb 8 4202) <| some ((Y 10 0 1 (ix 8)) - l2, Y)) else (bd1 (M12_passMinute Y) <| fun Y8 => M12_passMinutes_b10 a1 n Y8 (l3 + 1) l2)
noncomputable def M12_passMinutes (Y : Mem) (a1 : Int32) : Option (Int32 × Mem) :=
  gd (inb 8 4202) <| lt_ (Y 10 0 1 (ix 8)) <| fun v2 => M12_passMinutes_b10 a1 FU Y 0 v2
noncomputable def M12_stopIt (Y : Mem) (a1 : Int32) : Option (Int32 × Mem) :=
  bd1 (M12_of Y a1 18) <| fun r1 => bd1 (M12_set Y a1 17 0) <| fun Y5 => bd1 (M12_set Y5 a1 18 0) <| fun Y8 => gd (inb 11 4202) <| lt_ (up Y8 10 0 1 (ix 11) ((Y8 10 0 1 (ix 11)) + 1)) <| fun Y10 => some (r1, Y10)
noncomputable def M12_redoIt (Y : Mem) (a1 : Int32) : Option (Int32 × Mem) :=
  bd1 (M12_of Y a1 19) <| fun r1 => bd1 (M12_set Y a1 17 0) <| fun Y5 => bd1 (M12_set Y5 a1 19 0) <| fun Y8 => some (r1, Y8)
noncomputable def M12_doIt (Y : Mem) (a1 : Int32) (a2 : Int32) (a3 : Int32) : Option (Mem) :=
  if a1 = 0 then (bd2 (M12_passMinutes Y a2) <| fun r2 Y4 => some Y4) else (if a1 = 1 then (gd (inb 5 4202) <| lt_ (up Y 10 0 1 (ix 5) ((Y 10 0 1 (ix 5)) + a2)) <| fun Y7 => some Y7) else (if a1 = 2 then (gd (inb 5 4202) <| lt_ (up Y 10 0 1 (ix 5) ((Y 10 0 1 (ix 5)) - a2)) <| fun Y11 => some Y11) else (if a1 = 3 then (bd2 (M12_stopIt Y a2) <| fun r14 Y16 => some Y16) else (if a1 = 4 then (bd2 (M12_redoIt Y a2) <| fun r18 Y20 => some Y20) else (if a1 = 5 then (gd (inb 0 4202) <| lt_ (up Y 10 0 1 (ix 0) a2) <| fun Y23 => some Y23) else (if a1 = 6 then (bd1 (M12_set Y a2 7 a3) <| fun Y28 => some Y28) else (gd (inb 6 4202) <| lt_ (up Y 10 0 1 (ix 6) 1) <| fun Y30 => some Y30)))))))
noncomputable def M12_doneShare (Y : Mem) : Option (UInt32 × Mem) :=
  lt_ (up Y 10 0 0 9 0) <| fun Y1 => bd1 (M12_withStatus Y1 2) <| fun r3 => gd (inb 13 4202) <| gd (decide (FP.fdiv (FP.i2f r3) (FP.i2f (Y1 10 0 1 (ix 13))) &&& 0x7fffffff ≤ 0x7f800000)) <| some (FP.fdiv (FP.i2f r3) (FP.i2f (Y1 10 0 1 (ix 13))), Y1)
noncomputable def M12_duration (Y : Mem) (a1 : Int32) : Option (Int32 × Mem) :=
  bd2 (M12_field Y a1 7) <| fun r1 Y3 => some (r1, Y3)
noncomputable def M12_errorCode (Y : Mem) : Option (Int32 × Mem) :=
  lt_ (up Y 10 0 0 9 0) <| fun Y1 => some (Y1 10 0 0 5, Y1)
noncomputable def M12_errorPosition (Y : Mem) : Option (Int32 × Mem) :=
  lt_ (up Y 10 0 0 9 0) <| fun Y1 => some (Y1 10 0 0 6, Y1)
noncomputable def M12_finishWith (Y : Mem) (a1 : Int32) : Option (Int32 × Mem) :=
  bd1 (M12_copyBlock Y 0 9) <| fun Y3 => gd (inb 0 4202) <| lt_ (up Y3 10 0 1 (ix 0) a1) <| fun Y5 => bd2 (M12_simulate Y5) <| fun r7 Y9 => bd1 (M12_copyBlock Y9 9 0) <| fun Y12 => some (r7, Y12)
noncomputable def M12_fewestCooks_b13  : Nat → Mem → Int32 → Int32 → Option (Int32 × Mem)
  | 0, _, _, _ => none
  | n+1, Y, l2, l1 =>
  bd2 (M12_finishWith Y l2) <| fun r6 Y8 => if r6 = l1 then (some (l2, Y8)) else (M12_fewestCooks_b13 n Y8 (l2 + 1) l1)
noncomputable def M12_fewestCooks (Y : Mem) : Option (Int32 × Mem) :=
  lt_ (up Y 10 0 0 9 0) <| fun Y1 => bd2 (M12_finishWith Y1 4) <| fun r3 Y5 => M12_fewestCooks_b13 FU Y5 1 r3
noncomputable def M12_isNamed_b15 (Y : Mem) (a1 : Int32) (a2 : Int32) (a3 : Int32) : Nat → Int32 → Option (Int32)
  | 0, _ => none
  | n+1, l4 =>
  if a3 ≤ l4 then (some 1) else (gd (inb ((a1 + 1) + l4) 4202) <| gd (inb (a2 + l4) 700) <| if (Y 10 0 1 (ix ((a1 + 1) + l4))) = (Y 10 0 3 (ix (a2 + l4))) then (M12_isNamed_b15 Y a1 a2 a3 n (l4 + 1)) else (some 0))
noncomputable def M12_isNamed (Y : Mem) (a1 : Int32) (a2 : Int32) (a3 : Int32) : Option (Int32) :=
  gd (inb a1 4202) <| if (Y 10 0 1 (ix a1)) = a3 then (M12_isNamed_b15 Y a1 a2 a3 FU 0) else (some 0)
noncomputable def M12_stepNamed_b2 (Y : Mem) (a1 : Int32) (a2 : Int32) : Nat → Int32 → Option (Int32)
  | 0, _ => none
  | n+1, l3 =>
  gd (inb 13 4202) <| if (Y 10 0 1 (ix 13)) ≤ l3 then (some ((-1))) else (bd1 (M12_isNamed Y (46 + (l3 * 24)) a1 a2) <| fun r3 => if r3 = 0 then (M12_stepNamed_b2 Y a1 a2 n (l3 + 1)) else (some l3))
noncomputable def M12_stepNamed (Y : Mem) (a1 : Int32) (a2 : Int32) : Option (Int32) :=
  M12_stepNamed_b2 Y a1 a2 FU 0
noncomputable def M12_findStep_b21  (Y : Mem) (l1 : Int32) (s0 : Int32) : Option (Int32 × Mem) :=
  bd2 (M12_fails Y s0 0 0) <| fun r4 Y6 => if r4 = 0 then (some (l1, Y6)) else (some (0, Y6))
noncomputable def M12_findStep (Y : Mem) : Option (Int32 × Mem) :=
  bd1 (M12_stepNamed Y 0 (Y 10 0 0 4)) <| fun r1 => if r1 = ((-1)) then (M12_findStep_b21 Y r1 1) else (M12_findStep_b21 Y r1 0)
noncomputable def M12_inconsistencies_b121  (k37 : Mem → Int32 → Int32 → Option (Int32 × Mem)) (Y : Mem) (l2 : Int32) (s0 : Int32) (s1 : Int32) : Option (Int32 × Mem) :=
  lt_ (s1 + s0) <| fun v18 => k37 Y (l2 + 1) v18
noncomputable def M12_inconsistencies_b120  (k37 : Mem → Int32 → Int32 → Option (Int32 × Mem)) (Y : Mem) (l2 : Int32) (s0 : Int32) : Option (Int32 × Mem) :=
  M12_inconsistencies_b121 k37 Y l2 0 s0
noncomputable def M12_inconsistencies_b93  (k53 : Mem → Int32 → Int32 → Int32 → Int32 → Option (Int32 × Mem)) (Y : Mem) (l4 : Int32) (l2 : Int32) (l1 : Int32) (s0 : Int32) : Option (Int32 × Mem) :=
  k53 Y (l4 + 1) s0 l2 l1
noncomputable def M12_inconsistencies_b88  (k53 : Mem → Int32 → Int32 → Int32 → Int32 → Option (Int32 × Mem)) (Y : Mem) (l4 : Int32) (l2 : Int32) (l1 : Int32) : Option (Int32 × Mem) :=
  M12_inconsistencies_b93 k53 Y l4 l2 l1 1
noncomputable def M12_inconsistencies_b53  (k37 : Mem → Int32 → Int32 → Option (Int32 × Mem)) : Nat → Mem → Int32 → Int32 → Int32 → Int32 → Option (Int32 × Mem)
  | 0, _, _, _, _, _ => none
  | n+1, Y, l4, l3, l2, l1 =>
  bd1 (M12_of Y l2 12) <| fun r12 => if r12 ≤ l4 then (bd1 (M12_of Y l2 17) <| fun r15 => if r15 = 1 then (if l3 = 0 then (M12_inconsistencies_b120 k37 Y l2 l1) else (M12_inconsistencies_b121 k37 Y l2 1 l1)) else (M12_inconsistencies_b120 k37 Y l2 l1)) else (if l3 = 0 then (bd1 (M12_of Y l2 (13 + l4)) <| fun r22 => bd1 (M12_of Y r22 21) <| fun r24 => if r24 = 0 then (M12_inconsistencies_b88 (M12_inconsistencies_b53 k37 n) Y l4 l2 l1) else (M12_inconsistencies_b93 (M12_inconsistencies_b53 k37 n) Y l4 l2 l1 0)) else (M12_inconsistencies_b88 (M12_inconsistencies_b53 k37 n) Y l4 l2 l1))
noncomputable def M12_inconsistencies_b37  : Nat → Mem → Int32 → Int32 → Option (Int32 × Mem)
  | 0, _, _, _ => none
  | n+1, Y, l2, l1 =>
  gd (inb 13 4202) <| if (Y 10 0 1 (ix 13)) ≤ l2 then (some (l1, Y)) else (M12_inconsistencies_b53 (M12_inconsistencies_b37 n) FU Y 0 0 l2 l1)
noncomputable def M12_inconsistencies (Y : Mem) : Option (Int32 × Mem) :=
  lt_ (up Y 10 0 0 9 0) <| fun Y1 => gd (inb 7 4202) <| gd (inb 8 4202) <| bd1 (M12_withStatus Y1 1) <| fun r5 => gd (inb 11 4202) <| lt_ ((((Y1 10 0 1 (ix 7)) - (Y1 10 0 1 (ix 8))) - r5) - (Y1 10 0 1 (ix 11))) <| fun v8 => M12_inconsistencies_b37 FU Y1 0 v8
noncomputable def M12_isHot (Y : Mem) (a1 : Int32) : Option (Int32 × Mem) :=
  bd2 (M12_field Y a1 10) <| fun r1 Y3 => if r1 = 1 then (some (1, Y3)) else (some (0, Y3))
noncomputable def M12_isPan (Y : Mem) (a1 : Int32) : Option (Int32) :=
  gd (inb 12 4202) <| bd1 (M12_in Y a1 0 ((Y 10 0 1 (ix 12)) - 1)) <| fun r2 => gd (decide (r2 = 0 ∨ r2 = 1)) <| some r2
noncomputable def M12_wrong (Y : Mem) (a1 : Int32) : Option (Int32 × Mem) :=
  lt_ (up Y 10 0 0 5 a1) <| fun Y1 => lt_ (up Y1 10 0 0 6 (Y1 10 0 0 16)) <| fun Y3 => some (0, Y3)
noncomputable def M12_isShortWord_b36  (Y : Mem) : Option (Int32 × Mem) :=
  some (1, Y)
noncomputable def M12_isShortWord (Y : Mem) : Option (Int32 × Mem) :=
  if (Y 10 0 0 15) = 1 then (if ((Y 10 0 0 14) - (Y 10 0 0 16)) ≤ 6 then (M12_isShortWord_b36 Y) else (bd2 (M12_wrong Y 3) <| fun r3 Y5 => if r3 = 0 then (some (0, Y5)) else (M12_isShortWord_b36 Y5))) else (bd2 (M12_wrong Y 1) <| fun r7 Y9 => gd (decide (r7 = 0 ∨ r7 = 1)) <| some (r7, Y9))
noncomputable def M12_isTakenUp_b14 (a1 : Int32) (Y : Mem) (s0 : Int32) : Option (Int32 × Mem) :=
  bd2 (M12_fails Y s0 0 0) <| fun r4 Y6 => if r4 = 0 then (bd1 (M12_isTaken Y6 a1) <| fun r8 => gd (decide (r8 = 0 ∨ r8 = 1)) <| some (r8, Y6)) else (some (0, Y6))
noncomputable def M12_isTakenUp (Y : Mem) (a1 : Int32) : Option (Int32 × Mem) :=
  bd1 (M12_isStep Y a1) <| fun r1 => if r1 = 0 then (M12_isTakenUp_b14 a1 Y 1) else (M12_isTakenUp_b14 a1 Y 0)
noncomputable def M12_isUnattended (Y : Mem) (a1 : Int32) : Option (Int32 × Mem) :=
  bd2 (M12_field Y a1 11) <| fun r1 Y3 => if r1 = 1 then (some (1, Y3)) else (some (0, Y3))
noncomputable def M12_parseRanged (Y : Mem) (a1 : Int32) (a2 : Int32) (a3 : Int32) : Option (Int32 × Mem) :=
  if (Y 10 0 0 15) = 2 then (bd1 (M12_in Y (Y 10 0 0 17) a2 a3) <| fun r2 => if r2 = 0 then (bd2 (M12_wrong Y 2) <| fun r11 Y13 => gd (decide (r11 = 0 ∨ r11 = 1)) <| some (r11, Y13)) else (gd (inb a1 4202) <| lt_ (up Y 10 0 1 (ix a1) (Y 10 0 0 17)) <| fun Y6 => bd1 (M12_token Y6) <| fun Y10 => some (1, Y10))) else (bd2 (M12_wrong Y 1) <| fun r15 Y17 => gd (decide (r15 = 0 ∨ r15 = 1)) <| some (r15, Y17))
noncomputable def M12_semicolon (Y : Mem) : Option (Int32 × Mem) :=
  if (Y 10 0 0 15) = 3 then (bd1 (M12_token Y) <| fun Y4 => some (1, Y4)) else (bd2 (M12_wrong Y 1) <| fun r5 Y7 => gd (decide (r5 = 0 ∨ r5 = 1)) <| some (r5, Y7))
noncomputable def M12_panNamed_b2 (Y : Mem) (a1 : Int32) (a2 : Int32) : Nat → Int32 → Option (Int32)
  | 0, _ => none
  | n+1, l3 =>
  gd (inb 12 4202) <| if (Y 10 0 1 (ix 12)) ≤ l3 then (some ((-1))) else (bd1 (M12_isNamed Y (14 + (l3 * 8)) a1 a2) <| fun r3 => if r3 = 0 then (M12_panNamed_b2 Y a1 a2 n (l3 + 1)) else (some l3))
noncomputable def M12_panNamed (Y : Mem) (a1 : Int32) (a2 : Int32) : Option (Int32) :=
  M12_panNamed_b2 Y a1 a2 FU 0
noncomputable def M12_putName_b20 (a1 : Int32) : Nat → Mem → Int32 → Option (Mem)
  | 0, _, _ => none
  | n+1, Y, l2 =>
  if (Y 10 0 0 14) ≤ l2 then (bd1 (M12_token Y) <| fun Y9 => some Y9) else (gd (inb l2 700) <| gd (inb (((a1 + 1) + l2) - (Y 10 0 0 16)) 4202) <| lt_ (up Y 10 0 1 (ix (((a1 + 1) + l2) - (Y 10 0 0 16))) (Y 10 0 3 (ix l2))) <| fun Y12 => M12_putName_b20 a1 n Y12 (l2 + 1))
noncomputable def M12_putName (Y : Mem) (a1 : Int32) : Option (Mem) :=
  gd (inb a1 4202) <| lt_ (up Y 10 0 1 (ix a1) ((Y 10 0 0 14) - (Y 10 0 0 16))) <| fun Y2 => lt_ (Y2 10 0 0 16) <| fun v4 => M12_putName_b20 a1 FU Y2 v4
noncomputable def M12_parsePan (Y : Mem) : Option (Int32 × Mem) :=
  gd (inb 12 4202) <| if (Y 10 0 1 (ix 12)) = 4 then (bd2 (M12_wrong Y 5) <| fun r32 Y34 => gd (decide (r32 = 0 ∨ r32 = 1)) <| some (r32, Y34)) else (bd1 (M12_token Y) <| fun Y5 => bd2 (M12_isShortWord Y5) <| fun r6 Y8 => if r6 = 0 then (some (0, Y8)) else (bd1 (M12_panNamed Y8 (Y8 10 0 0 16) ((Y8 10 0 0 14) - (Y8 10 0 0 16))) <| fun r10 => if r10 = ((-1)) then (lt_ (14 + ((Y8 10 0 1 (ix 12)) * 8)) <| fun v13 => bd1 (M12_putName Y8 v13) <| fun Y17 => bd2 (M12_parseRanged Y17 (v13 + 7) 1 5) <| fun r18 Y20 => if r18 = 0 then (some (0, Y20)) else (bd2 (M12_semicolon Y20) <| fun r22 Y24 => if r22 = 0 then (some (0, Y24)) else (lt_ (up Y24 10 0 1 (ix 12) ((Y24 10 0 1 (ix 12)) + 1)) <| fun Y26 => some (1, Y26)))) else (bd2 (M12_wrong Y8 3) <| fun r28 Y30 => gd (decide (r28 = 0 ∨ r28 = 1)) <| some (r28, Y30))))
noncomputable def M12_takes (Y : Mem) (w1 : Nat) : Option (Int32 × Mem) :=
  bd1 (M12_isWord Y w1) <| fun r1 => if r1 = 0 then (some (0, Y)) else (bd1 (M12_token Y) <| fun Y6 => some (1, Y6))
noncomputable def M12_parsePanType (Y : Mem) (a1 : Int32) : Option (Int32 × Mem) :=
  gd (inb (a1 + 9) 4202) <| lt_ (up Y 10 0 1 (ix (a1 + 9)) ((-1))) <| fun Y2 => bd2 (M12_takes Y2 4) <| fun r4 Y6 => if r4 = 0 then (some (1, Y6)) else (bd2 (M12_isShortWord Y6) <| fun r8 Y10 => if r8 = 0 then (some (0, Y10)) else (bd1 (M12_panNamed Y10 (Y10 10 0 0 16) ((Y10 10 0 0 14) - (Y10 10 0 0 16))) <| fun r12 => lt_ (up Y10 10 0 1 (ix (a1 + 9)) r12) <| fun Y14 => if (Y14 10 0 1 (ix (a1 + 9))) = ((-1)) then (bd2 (M12_wrong Y14 3) <| fun r20 Y22 => gd (decide (r20 = 0 ∨ r20 = 1)) <| some (r20, Y22)) else (bd1 (M12_token Y14) <| fun Y19 => some (1, Y19))))
noncomputable def M12_parsePredecessor_b40 (a1 : Int32) : Nat → Mem → Int32 → Int32 → Option (Int32 × Mem)
  | 0, _, _, _ => none
  | n+1, Y, l3, l2 =>
  gd (inb (a1 + 12) 4202) <| if (Y 10 0 1 (ix (a1 + 12))) ≤ l3 then (if (Y 10 0 1 (ix (a1 + 12))) = 4 then (bd2 (M12_wrong Y 5) <| fun r19 Y21 => gd (decide (r19 = 0 ∨ r19 = 1)) <| some (r19, Y21)) else (gd (inb ((a1 + 13) + (Y 10 0 1 (ix (a1 + 12)))) 4202) <| lt_ (up Y 10 0 1 (ix ((a1 + 13) + (Y 10 0 1 (ix (a1 + 12))))) l2) <| fun Y12 => lt_ (up Y12 10 0 1 (ix (a1 + 12)) ((Y12 10 0 1 (ix (a1 + 12))) + 1)) <| fun Y14 => bd1 (M12_token Y14) <| fun Y18 => some (1, Y18))) else (gd (inb ((a1 + 13) + l3) 4202) <| if (Y 10 0 1 (ix ((a1 + 13) + l3))) = l2 then (bd2 (M12_wrong Y 4) <| fun r25 Y27 => gd (decide (r25 = 0 ∨ r25 = 1)) <| some (r25, Y27)) else (M12_parsePredecessor_b40 a1 n Y (l3 + 1) l2))
noncomputable def M12_parsePredecessor (Y : Mem) (a1 : Int32) : Option (Int32 × Mem) :=
  bd2 (M12_isShortWord Y) <| fun r1 Y3 => if r1 = 0 then (some (0, Y3)) else (bd1 (M12_stepNamed Y3 (Y3 10 0 0 16) ((Y3 10 0 0 14) - (Y3 10 0 0 16))) <| fun r5 => if r5 = ((-1)) then (bd2 (M12_wrong Y3 3) <| fun r29 Y31 => gd (decide (r29 = 0 ∨ r29 = 1)) <| some (r29, Y31)) else (M12_parsePredecessor_b40 a1 FU Y3 0 r5))
noncomputable def M12_parseStep_b221  (Y : Mem) : Option (Int32 × Mem) :=
  bd2 (M12_semicolon Y) <| fun r49 Y51 => if r49 = 0 then (some (0, Y51)) else (gd (inb 13 4202) <| lt_ (up Y51 10 0 1 (ix 13) ((Y51 10 0 1 (ix 13)) + 1)) <| fun Y54 => some (1, Y54))
noncomputable def M12_parseStep_b203  : Nat → Mem → Int32 → Option (Int32 × Mem)
  | 0, _, _ => none
  | n+1, Y, l1 =>
  if (Y 10 0 0 15) = 1 then (bd2 (M12_parsePredecessor Y l1) <| fun r61 Y63 => if r61 = 0 then (some (0, Y63)) else (M12_parseStep_b203 n Y63 l1)) else (M12_parseStep_b221 Y)
noncomputable def M12_parseStep_b183  (Y : Mem) (l1 : Int32) (s0 : Int32) (s1 : Int32) : Option (Int32 × Mem) :=
  gd (inb s1 4202) <| lt_ (up Y 10 0 1 (ix s1) s0) <| fun Y43 => bd2 (M12_takes Y43 7) <| fun r45 Y47 => if r45 = 0 then (M12_parseStep_b221 Y47) else (bd2 (M12_parsePredecessor Y47 l1) <| fun r56 Y58 => if r56 = 0 then (some (0, Y58)) else (M12_parseStep_b203 FU Y58 l1))
noncomputable def M12_parseStep_b160  (Y : Mem) (l1 : Int32) (s0 : Int32) (s1 : Int32) : Option (Int32 × Mem) :=
  gd (inb s1 4202) <| lt_ (up Y 10 0 1 (ix s1) s0) <| fun Y36 => bd2 (M12_takes Y36 6) <| fun r38 Y40 => if r38 = 0 then (M12_parseStep_b183 Y40 l1 0 (l1 + 11)) else (M12_parseStep_b183 Y40 l1 1 (l1 + 11))
noncomputable def M12_parseStep_b74  : Nat → Mem → Int32 → Int32 → Option (Int32 × Mem)
  | 0, _, _, _ => none
  | n+1, Y, l2, l1 =>
  if 24 ≤ l2 then (bd1 (M12_putName Y l1) <| fun Y18 => bd2 (M12_parseRanged Y18 (l1 + 7) 1 60) <| fun r19 Y21 => if r19 = 0 then (some (0, Y21)) else (bd2 (M12_parseRanged Y21 (l1 + 8) 0 9) <| fun r23 Y25 => if r23 = 0 then (some (0, Y25)) else (bd2 (M12_parsePanType Y25 l1) <| fun r27 Y29 => if r27 = 0 then (some (0, Y29)) else (bd2 (M12_takes Y29 5) <| fun r31 Y33 => if r31 = 0 then (M12_parseStep_b160 Y33 l1 0 (l1 + 10)) else (M12_parseStep_b160 Y33 l1 1 (l1 + 10)))))) else (gd (inb (l1 + l2) 4202) <| lt_ (up Y 10 0 1 (ix (l1 + l2)) 0) <| fun Y66 => M12_parseStep_b74 n Y66 (l2 + 1) l1)
noncomputable def M12_parseStep (Y : Mem) : Option (Int32 × Mem) :=
  gd (inb 13 4202) <| if (Y 10 0 1 (ix 13)) = 14 then (bd2 (M12_wrong Y 5) <| fun r72 Y74 => gd (decide (r72 = 0 ∨ r72 = 1)) <| some (r72, Y74)) else (bd1 (M12_token Y) <| fun Y5 => bd2 (M12_isShortWord Y5) <| fun r6 Y8 => if r6 = 0 then (some (0, Y8)) else (bd1 (M12_stepNamed Y8 (Y8 10 0 0 16) ((Y8 10 0 0 14) - (Y8 10 0 0 16))) <| fun r10 => if r10 = ((-1)) then (lt_ (46 + ((Y8 10 0 1 (ix 13)) * 24)) <| fun v13 => M12_parseStep_b74 FU Y8 0 v13) else (bd2 (M12_wrong Y8 3) <| fun r68 Y70 => gd (decide (r68 = 0 ∨ r68 = 1)) <| some (r68, Y70))))
noncomputable def M12_parseSetup_b164  (Y : Mem) : Option (Int32 × Mem) :=
  some (1, Y)
noncomputable def M12_parseSetup_b131  : Nat → Mem → Option (Int32 × Mem)
  | 0, _ => none
  | n+1, Y =>
  bd1 (M12_isWord Y 3) <| fun r35 => if r35 = 0 then (if (Y 10 0 0 15) = 0 then (M12_parseSetup_b164 Y) else (bd2 (M12_wrong Y 1) <| fun r39 Y41 => if r39 = 0 then (some (0, Y41)) else (M12_parseSetup_b164 Y41))) else (bd2 (M12_parseStep Y) <| fun r43 Y45 => if r43 = 0 then (some (0, Y45)) else (M12_parseSetup_b131 n Y45))
noncomputable def M12_parseSetup_b98  : Nat → Mem → Option (Int32 × Mem)
  | 0, _ => none
  | n+1, Y =>
  bd1 (M12_isWord Y 2) <| fun r29 => if r29 = 0 then (bd1 (M12_isWord Y 3) <| fun r32 => if r32 = 0 then (bd2 (M12_wrong Y 1) <| fun r47 Y49 => gd (decide (r47 = 0 ∨ r47 = 1)) <| some (r47, Y49)) else (M12_parseSetup_b131 FU Y)) else (bd2 (M12_parsePan Y) <| fun r51 Y53 => if r51 = 0 then (some (0, Y53)) else (M12_parseSetup_b98 n Y53))
noncomputable def M12_parseSetup_b2  : Nat → Mem → Int32 → Option (Int32 × Mem)
  | 0, _, _ => none
  | n+1, Y, l1 =>
  if 382 ≤ l1 then (bd1 (M12_isWord Y 1) <| fun r2 => if r2 = 0 then (bd2 (M12_wrong Y 1) <| fun r55 Y57 => gd (decide (r55 = 0 ∨ r55 = 1)) <| some (r55, Y57)) else (bd1 (M12_token Y) <| fun Y7 => bd2 (M12_parseRanged Y7 0 1 4) <| fun r8 Y10 => if r8 = 0 then (some (0, Y10)) else (bd2 (M12_parseRanged Y10 1 0 30) <| fun r12 Y14 => if r12 = 0 then (some (0, Y14)) else (bd2 (M12_parseRanged Y14 2 0 99) <| fun r16 Y18 => if r16 = 0 then (some (0, Y18)) else (gd (inb 2 4202) <| bd2 (M12_parseRanged Y18 3 (Y18 10 0 1 (ix 2)) 99) <| fun r21 Y23 => if r21 = 0 then (some (0, Y23)) else (bd2 (M12_semicolon Y23) <| fun r25 Y27 => if r25 = 0 then (some (0, Y27)) else (M12_parseSetup_b98 FU Y27))))))) else (gd (inb l1 4202) <| lt_ (up Y 10 0 1 (ix l1) 0) <| fun Y60 => M12_parseSetup_b2 n Y60 (l1 + 1))
noncomputable def M12_parseSetup (Y : Mem) : Option (Int32 × Mem) :=
  M12_parseSetup_b2 FU Y 0
noncomputable def M12_load_b42  (Y : Mem) (s0 : Int32) : Option (Int32 × Mem) :=
  bd2 (M12_fails Y s0 0 0) <| fun r14 Y16 => if r14 = 0 then (lt_ (up Y16 10 0 0 2 0) <| fun Y18 => gd (inb 0 2) <| lt_ (up Y18 10 0 2 (ix 0) (vp_nar .boolean 0)) <| fun Y21 => gd (inb 1 2) <| lt_ (up Y21 10 0 2 (ix 1) (vp_nar .boolean 0)) <| fun Y24 => gd (inb 13 4202) <| some (Y24 10 0 1 (ix 13), Y24)) else (some (0, Y16))
noncomputable def M12_load_b32  (Y : Mem) (l1 : Int32) : Option (Int32 × Mem) :=
  if l1 = 0 then (M12_load_b42 Y 1) else (M12_load_b42 Y 0)
noncomputable def M12_load (Y : Mem) : Option (Int32 × Mem) :=
  bd1 (M12_copyBlock Y 0 9) <| fun Y3 => bd1 (M12_begin Y3) <| fun Y6 => bd2 (M12_parseSetup Y6) <| fun r7 Y9 => lt_ (up Y9 10 0 0 4 0) <| fun Y10 => if r7 = 0 then (bd1 (M12_copyBlock Y10 9 0) <| fun Y29 => M12_load_b32 Y29 r7) else (M12_load_b32 Y10 r7)
noncomputable def M12_longestPath_b35 (Y : Mem) (k4 : Int32 → Int32 → Option (Int32)) (l2 : Int32) (s0 : Int32) : Option (Int32) :=
  k4 (l2 + 1) s0
noncomputable def M12_longestPath_b4 (Y : Mem) : Nat → Int32 → Int32 → Option (Int32)
  | 0, _, _ => none
  | n+1, l2, l1 =>
  gd (inb 13 4202) <| if (Y 10 0 1 (ix 13)) ≤ l2 then (some l1) else (gd (inb l2 14) <| if (Y 10 0 5 (ix l2)) ≤ l1 then (M12_longestPath_b35 Y (M12_longestPath_b4 Y n) l2 l1) else (M12_longestPath_b35 Y (M12_longestPath_b4 Y n) l2 (Y 10 0 5 (ix l2))))
noncomputable def M12_longestPath (Y : Mem) : Option (Int32) :=
  M12_longestPath_b4 Y FU 0 0
noncomputable def M12_meanDuration_b9  : Nat → Mem → Int32 → Int32 → Option (UInt64 × Mem)
  | 0, _, _, _ => none
  | n+1, Y, l2, l1 =>
  gd (inb 13 4202) <| if (Y 10 0 1 (ix 13)) ≤ l2 then (gd (decide (FP.ddiv (FP.i2d l1) (FP.i2d (Y 10 0 1 (ix 13))) &&& 0x7fffffffffffffff ≤ 0x7ff0000000000000)) <| some (FP.ddiv (FP.i2d l1) (FP.i2d (Y 10 0 1 (ix 13))), Y)) else (bd1 (M12_of Y l2 7) <| fun r6 => lt_ (l1 + r6) <| fun v8 => M12_meanDuration_b9 n Y (l2 + 1) v8)
noncomputable def M12_meanDuration (Y : Mem) : Option (UInt64 × Mem) :=
  lt_ (up Y 10 0 0 9 0) <| fun Y1 => M12_meanDuration_b9 FU Y1 0 0
noncomputable def M12_minute (Y : Mem) : Option (Int32 × Mem) :=
  gd (inb 4 4202) <| bd2 (M12_plain Y (Y 10 0 1 (ix 4))) <| fun r2 Y4 => some (r2, Y4)
noncomputable def M12_minutesToBurn_b85 (a1 : Int32) (Y : Mem) (l3 : Int32) (s0 : Int32) : Option (Int32 × Mem) :=
  bd1 (M12_copyBlock Y 9 0) <| fun Y19 => if s0 = 0 then (some ((-1), Y19)) else (some (l3, Y19))
noncomputable def M12_minutesToBurn_b69 (a1 : Int32) (Y : Mem) (l3 : Int32) (l2 : Int32) : Option (Int32 × Mem) :=
  bd1 (M12_of Y a1 22) <| fun r14 => if r14 ≤ l2 then (M12_minutesToBurn_b85 a1 Y l3 0) else (M12_minutesToBurn_b85 a1 Y l3 1)
noncomputable def M12_minutesToBurn_b41 (a1 : Int32) : Nat → Mem → Int32 → Int32 → Option (Int32 × Mem)
  | 0, _, _, _ => none
  | n+1, Y, l3, l2 =>
  if 500 ≤ l3 then (M12_minutesToBurn_b69 a1 Y l3 l2) else (bd1 (M12_of Y a1 22) <| fun r21 => if r21 = l2 then (bd1 (M12_passMinute Y) <| fun Y26 => M12_minutesToBurn_b41 a1 n Y26 (l3 + 1) l2) else (M12_minutesToBurn_b69 a1 Y l3 l2))
noncomputable def M12_minutesToBurn_b14 (a1 : Int32) (Y : Mem) (s0 : Int32) : Option (Int32 × Mem) :=
  bd2 (M12_fails Y s0 0 0) <| fun r4 Y6 => if r4 = 0 then (bd1 (M12_copyBlock Y6 0 9) <| fun Y10 => bd1 (M12_of Y10 a1 22) <| fun r11 => M12_minutesToBurn_b41 a1 FU Y10 0 r11) else (some (0, Y6))
noncomputable def M12_minutesToBurn (Y : Mem) (a1 : Int32) : Option (Int32 × Mem) :=
  bd1 (M12_isStep Y a1) <| fun r1 => if r1 = 0 then (M12_minutesToBurn_b14 a1 Y 1) else (M12_minutesToBurn_b14 a1 Y 0)
noncomputable def M12_minutesToFinish (Y : Mem) : Option (Int32 × Mem) :=
  lt_ (up Y 10 0 0 9 0) <| fun Y1 => bd1 (M12_copyBlock Y1 0 9) <| fun Y5 => bd2 (M12_simulate Y5) <| fun r6 Y8 => bd1 (M12_copyBlock Y8 9 0) <| fun Y11 => some (r6, Y11)
noncomputable def M12_minutesWithCooks_b15 (a1 : Int32) (Y : Mem) (s0 : Int32) : Option (Int32 × Mem) :=
  bd2 (M12_fails Y s0 0 0) <| fun r4 Y6 => if r4 = 0 then (bd2 (M12_finishWith Y6 a1) <| fun r8 Y10 => some (r8, Y10)) else (some (0, Y6))
noncomputable def M12_minutesWithCooks (Y : Mem) (a1 : Int32) : Option (Int32 × Mem) :=
  bd1 (M12_in Y a1 1 4) <| fun r1 => if r1 = 0 then (M12_minutesWithCooks_b15 a1 Y 1) else (M12_minutesWithCooks_b15 a1 Y 0)
noncomputable def M12_nameLetter_b42 (a1 : Int32) (a2 : Int32) (Y : Mem) (s0 : Int32) : Option (Int32 × Mem) :=
  bd2 (M12_fails Y s0 0 0) <| fun r4 Y6 => if r4 = 0 then (bd1 (M12_of Y6 a1 (1 + a2)) <| fun r8 => some (r8, Y6)) else (some (0, Y6))
noncomputable def M12_nameLetter_b37 (a1 : Int32) (a2 : Int32) (Y : Mem) : Option (Int32 × Mem) :=
  M12_nameLetter_b42 a1 a2 Y 1
noncomputable def M12_nameLetter_b25 (a1 : Int32) (a2 : Int32) (Y : Mem) (s0 : Int32) (s2 : Int32) (s3 : Int32) : Option (Int32 × Mem) :=
  bd1 (M12_of Y s0 0) <| fun r13 => bd1 (M12_in Y s3 s2 (r13 - 1)) <| fun r15 => if r15 = 0 then (M12_nameLetter_b37 a1 a2 Y) else (M12_nameLetter_b42 a1 a2 Y 0)
noncomputable def M12_nameLetter (Y : Mem) (a1 : Int32) (a2 : Int32) : Option (Int32 × Mem) :=
  bd1 (M12_isStep Y a1) <| fun r1 => if r1 = 0 then (M12_nameLetter_b37 a1 a2 Y) else (bd1 (M12_isStep Y a1) <| fun r10 => if r10 = 0 then (M12_nameLetter_b25 a1 a2 Y 0 0 a2) else (M12_nameLetter_b25 a1 a2 Y a1 0 a2))
noncomputable def M12_outputByte_b20 (a1 : Int32) (Y : Mem) (s0 : Int32) : Option (Int32 × Mem) :=
  bd2 (M12_fails Y s0 0 0) <| fun r4 Y6 => if r4 = 0 then (gd (inb a1 150) <| some (Y6 10 0 4 (ix a1), Y6)) else (some (0, Y6))
noncomputable def M12_outputByte (Y : Mem) (a1 : Int32) : Option (Int32 × Mem) :=
  bd1 (M12_in Y a1 0 ((Y 10 0 0 8) - 1)) <| fun r1 => if r1 = 0 then (M12_outputByte_b20 a1 Y 1) else (M12_outputByte_b20 a1 Y 0)
noncomputable def M12_panCapacity_b14 (a1 : Int32) (Y : Mem) (s0 : Int32) : Option (Int32 × Mem) :=
  bd2 (M12_fails Y s0 0 0) <| fun r4 Y6 => if r4 = 0 then (bd1 (M12_capacity Y6 a1) <| fun r8 => some (r8, Y6)) else (some (0, Y6))
noncomputable def M12_panCapacity (Y : Mem) (a1 : Int32) : Option (Int32 × Mem) :=
  bd1 (M12_isPan Y a1) <| fun r1 => if r1 = 0 then (M12_panCapacity_b14 a1 Y 1) else (M12_panCapacity_b14 a1 Y 0)
noncomputable def M12_panType (Y : Mem) (a1 : Int32) : Option (Int32 × Mem) :=
  bd2 (M12_field Y a1 9) <| fun r1 Y3 => some (r1, Y3)
noncomputable def M12_pansInUse_b14 (a1 : Int32) (Y : Mem) (s0 : Int32) : Option (Int32 × Mem) :=
  bd2 (M12_fails Y s0 0 0) <| fun r4 Y6 => if r4 = 0 then (bd1 (M12_usedPans Y6 a1) <| fun r8 => some (r8, Y6)) else (some (0, Y6))
noncomputable def M12_pansInUse (Y : Mem) (a1 : Int32) : Option (Int32 × Mem) :=
  bd1 (M12_isPan Y a1) <| fun r1 => if r1 = 0 then (M12_pansInUse_b14 a1 Y 1) else (M12_pansInUse_b14 a1 Y 0)
noncomputable def M12_parseStepName (Y : Mem) (a1 : Int32) : Option (Int32 × Mem) :=
  bd2 (M12_isShortWord Y) <| fun r1 Y3 => if r1 = 0 then (some (0, Y3)) else (bd1 (M12_stepNamed Y3 (Y3 10 0 0 16) ((Y3 10 0 0 14) - (Y3 10 0 0 16))) <| fun r5 => gd (inb a1 90) <| lt_ (up Y3 10 0 9 (ix a1) r5) <| fun Y8 => if (Y8 10 0 9 (ix a1)) = ((-1)) then (bd2 (M12_wrong Y8 3) <| fun r14 Y16 => gd (decide (r14 = 0 ∨ r14 = 1)) <| some (r14, Y16)) else (bd1 (M12_token Y8) <| fun Y13 => some (1, Y13)))
noncomputable def M12_parseNumber (Y : Mem) (a1 : Int32) : Option (Int32 × Mem) :=
  if (Y 10 0 0 15) = 2 then (gd (inb a1 90) <| lt_ (up Y 10 0 9 (ix a1) (Y 10 0 0 17)) <| fun Y3 => bd1 (M12_token Y3) <| fun Y7 => some (1, Y7)) else (bd2 (M12_wrong Y 1) <| fun r8 Y10 => gd (decide (r8 = 0 ∨ r8 = 1)) <| some (r8, Y10))
noncomputable def M12_parseArguments (Y : Mem) (a1 : Int32) (a2 : Int32) : Option (Int32 × Mem) :=
  if a1 = 3 then (bd2 (M12_parseStepName Y a2) <| fun r2 Y4 => gd (decide (r2 = 0 ∨ r2 = 1)) <| some (r2, Y4)) else (if a1 = 4 then (bd2 (M12_parseStepName Y a2) <| fun r7 Y9 => gd (decide (r7 = 0 ∨ r7 = 1)) <| some (r7, Y9)) else (if a1 = 5 then (bd2 (M12_parseNumber Y a2) <| fun r12 Y14 => gd (decide (r12 = 0 ∨ r12 = 1)) <| some (r12, Y14)) else (if a1 = 6 then (bd2 (M12_parseStepName Y a2) <| fun r17 Y19 => if r17 = 0 then (some (0, Y19)) else (bd2 (M12_parseNumber Y19 (a2 + 1)) <| fun r21 Y23 => if r21 = 0 then (some (0, Y23)) else (some (1, Y23)))) else (if a1 = 7 then (some (1, Y)) else (bd2 (M12_parseNumber Y a2) <| fun r26 Y28 => gd (decide (r26 = 0 ∨ r26 = 1)) <| some (r26, Y28))))))
noncomputable def M12_parseScript_b46  (k2 : Mem → Int32 → Option (Int32 × Mem)) (Y : Mem) (l2 : Int32) (l1 : Int32) (s0 : Int32) : Option (Int32 × Mem) :=
  if s0 = 0 then (some ((-1), Y)) else (bd1 (M12_token Y) <| fun Y11 => gd (inb (l1 * 3) 90) <| lt_ (up Y11 10 0 9 (ix (l1 * 3)) l2) <| fun Y13 => bd2 (M12_parseArguments Y13 l2 ((l1 * 3) + 1)) <| fun r15 Y17 => if r15 = 0 then (some ((-1), Y17)) else (bd2 (M12_semicolon Y17) <| fun r19 Y21 => if r19 = 0 then (some ((-1), Y21)) else (k2 Y21 (l1 + 1))))
noncomputable def M12_parseScript_b33  (k2 : Mem → Int32 → Option (Int32 × Mem)) (Y : Mem) (l2 : Int32) (l1 : Int32) : Option (Int32 × Mem) :=
  M12_parseScript_b46 k2 Y l2 l1 1
noncomputable def M12_parseScript_b2  : Nat → Mem → Int32 → Option (Int32 × Mem)
  | 0, _, _ => none
  | n+1, Y, l1 =>
  if (Y 10 0 0 15) = 0 then (some (l1, Y)) else (bd1 (M12_commandHere Y) <| fun r2 => if r2 = ((-1)) then (bd2 (M12_wrong Y 1) <| fun r5 Y7 => M12_parseScript_b46 (M12_parseScript_b2 n) Y7 r2 l1 r5) else (if l1 < 30 then (M12_parseScript_b33 (M12_parseScript_b2 n) Y r2 l1) else (bd2 (M12_wrong Y 5) <| fun r24 Y26 => if r24 = 0 then (M12_parseScript_b46 (M12_parseScript_b2 n) Y26 r2 l1 0) else (M12_parseScript_b33 (M12_parseScript_b2 n) Y26 r2 l1))))
noncomputable def M12_parseScript (Y : Mem) : Option (Int32 × Mem) :=
  M12_parseScript_b2 FU Y 0
noncomputable def M12_pass_b42 (a1 : Int32) (Y : Mem) (s0 : Int32) (s1 : Int32) : Option (Int32 × Mem) :=
  bd2 (M12_fails Y s1 s0 0) <| fun r5 Y7 => if r5 = 0 then (bd1 (M12_remember Y7 0) <| fun Y11 => bd2 (M12_passMinutes Y11 a1) <| fun r12 Y14 => some (r12, Y14)) else (some (0, Y7))
noncomputable def M12_pass_b41 (a1 : Int32) (Y : Mem) (s0 : Int32) : Option (Int32 × Mem) :=
  M12_pass_b42 a1 Y 0 s0
noncomputable def M12_pass_b19 (a1 : Int32) (Y : Mem) (l2 : Int32) (s0 : Int32) : Option (Int32 × Mem) :=
  if l2 = 0 then (M12_pass_b41 a1 Y s0) else (gd (inb 4 4202) <| if ((Y 10 0 1 (ix 4)) + a1) ≤ 9999 then (M12_pass_b41 a1 Y s0) else (M12_pass_b42 a1 Y 1 s0))
noncomputable def M12_pass (Y : Mem) (a1 : Int32) : Option (Int32 × Mem) :=
  bd1 (M12_in Y a1 1 200) <| fun r1 => if r1 = 0 then (M12_pass_b19 a1 Y r1 1) else (M12_pass_b19 a1 Y r1 0)
noncomputable def M12_pathLength_b14 (a1 : Int32) (Y : Mem) (s0 : Int32) : Option (Int32 × Mem) :=
  bd2 (M12_fails Y s0 0 0) <| fun r4 Y6 => if r4 = 0 then (bd1 (M12_computePaths Y6) <| fun Y10 => gd (inb a1 14) <| some (Y10 10 0 5 (ix a1), Y10)) else (some (0, Y6))
noncomputable def M12_pathLength (Y : Mem) (a1 : Int32) : Option (Int32 × Mem) :=
  bd1 (M12_isStep Y a1) <| fun r1 => if r1 = 0 then (M12_pathLength_b14 a1 Y 1) else (M12_pathLength_b14 a1 Y 0)
noncomputable def M12_predecessor_b14 (a1 : Int32) (a2 : Int32) (Y : Mem) (s0 : Int32) : Option (Int32 × Mem) :=
  bd2 (M12_fails Y s0 0 0) <| fun r4 Y6 => if r4 = 0 then (bd1 (M12_of Y6 a1 12) <| fun r8 => bd1 (M12_in Y6 a2 0 (r8 - 1)) <| fun r10 => if r10 = 0 then (some ((-1), Y6)) else (bd1 (M12_of Y6 a1 (13 + a2)) <| fun r13 => some (r13, Y6))) else (some (0, Y6))
noncomputable def M12_predecessor (Y : Mem) (a1 : Int32) (a2 : Int32) : Option (Int32 × Mem) :=
  bd1 (M12_isStep Y a1) <| fun r1 => if r1 = 0 then (M12_predecessor_b14 a1 a2 Y 1) else (M12_predecessor_b14 a1 a2 Y 0)
noncomputable def M12_put (Y : Mem) (a1 : Int32) : Option (Mem) :=
  gd (inb (Y 10 0 0 8) 150) <| lt_ (up Y 10 0 4 (ix (Y 10 0 0 8)) a1) <| fun Y2 => lt_ (up Y2 10 0 0 8 ((Y2 10 0 0 8) + 1)) <| fun Y4 => some Y4
noncomputable def M12_putMark_b70 (a1 : Int32) (Y : Mem) : Option (Mem) :=
  bd1 (M12_of Y a1 18) <| fun r11 => bd1 (M12_put Y (48 + (r11 - r11 / 10 * 10))) <| fun Y15 => some Y15
noncomputable def M12_putMark (Y : Mem) (a1 : Int32) : Option (Mem) :=
  bd1 (M12_of Y a1 17) <| fun r1 => if r1 = 0 then (bd1 (M12_put Y 46) <| fun Y6 => some Y6) else (if r1 = 1 then (bd1 (M12_of Y a1 18) <| fun r8 => if r8 < 10 then (M12_putMark_b70 a1 Y) else (bd1 (M12_of Y a1 18) <| fun r16 => bd1 (M12_put Y (48 + (r16 / 10))) <| fun Y20 => M12_putMark_b70 a1 Y20)) else (if r1 = 2 then (bd1 (M12_put Y 61) <| fun Y24 => some Y24) else (bd1 (M12_put Y 42) <| fun Y27 => some Y27)))
noncomputable def M12_readyStep (Y : Mem) (a1 : Int32) : Option (Int32 × Mem) :=
  lt_ (up Y 10 0 0 9 0) <| fun Y1 => bd2 (M12_queueReady Y1) <| fun r3 Y5 => bd1 (M12_in Y5 a1 0 (r3 - 1)) <| fun r6 => if r6 = 0 then (some ((-1), Y5)) else (gd (inb a1 14) <| some (Y5 10 0 8 (ix a1), Y5))
noncomputable def M12_redo_b33 (a1 : Int32) (Y : Mem) (s0 : Int32) (s1 : Int32) : Option (Int32 × Mem) :=
  bd2 (M12_fails Y s1 s0 0) <| fun r5 Y7 => if r5 = 0 then (bd1 (M12_remember Y7 0) <| fun Y11 => bd2 (M12_redoIt Y11 a1) <| fun r12 Y14 => some (r12, Y14)) else (some (0, Y7))
noncomputable def M12_redo_b32 (a1 : Int32) (Y : Mem) (s0 : Int32) : Option (Int32 × Mem) :=
  M12_redo_b33 a1 Y 0 s0
noncomputable def M12_redo_b16 (a1 : Int32) (Y : Mem) (l2 : Int32) (s0 : Int32) : Option (Int32 × Mem) :=
  if l2 = 0 then (M12_redo_b32 a1 Y s0) else (bd1 (M12_canRedo Y a1) <| fun r15 => if r15 = 0 then (M12_redo_b33 a1 Y 1 s0) else (M12_redo_b32 a1 Y s0))
noncomputable def M12_redo (Y : Mem) (a1 : Int32) : Option (Int32 × Mem) :=
  bd1 (M12_isStep Y a1) <| fun r1 => if r1 = 0 then (M12_redo_b16 a1 Y r1 1) else (M12_redo_b16 a1 Y r1 0)
noncomputable def M12_remaining (Y : Mem) (a1 : Int32) : Option (Int32 × Mem) :=
  bd2 (M12_field Y a1 18) <| fun r1 Y3 => some (r1, Y3)
noncomputable def M12_restore_b35 (a1 : Int32) (Y : Mem) (s0 : Int32) (s1 : Int32) : Option (Int32 × Mem) :=
  bd2 (M12_fails Y s1 s0 0) <| fun r5 Y7 => if r5 = 0 then (bd1 (M12_copyBlock Y7 (7 + a1) 0) <| fun Y11 => lt_ (up Y11 10 0 0 2 0) <| fun Y12 => gd (inb 4 4202) <| some (Y12 10 0 1 (ix 4), Y12)) else (some (0, Y7))
noncomputable def M12_restore_b34 (a1 : Int32) (Y : Mem) (s0 : Int32) : Option (Int32 × Mem) :=
  M12_restore_b35 a1 Y 0 s0
noncomputable def M12_restore_b17 (a1 : Int32) (Y : Mem) (l2 : Int32) (s0 : Int32) : Option (Int32 × Mem) :=
  if l2 = 0 then (M12_restore_b34 a1 Y s0) else (gd (inb a1 2) <| if (Y 10 0 2 (ix a1)) = 0 then (M12_restore_b35 a1 Y 1 s0) else (M12_restore_b34 a1 Y s0))
noncomputable def M12_restore (Y : Mem) (a1 : Int32) : Option (Int32 × Mem) :=
  bd1 (M12_in Y a1 0 1) <| fun r1 => if r1 = 0 then (M12_restore_b17 a1 Y r1 1) else (M12_restore_b17 a1 Y r1 0)
noncomputable def M12_rootBlocker_b28 (a1 : Int32) : Nat → Mem → Int32 → Int32 → Option (Int32 × Mem)
  | 0, _, _, _ => none
  | n+1, Y, l3, l2 =>
  bd1 (M12_reasonFor Y l3) <| fun r8 => if r8 = 2 then (bd1 (M12_firstOpen Y l3) <| fun r11 => M12_rootBlocker_b28 a1 n Y r11 r11) else (some (l2, Y))
noncomputable def M12_rootBlocker_b14 (a1 : Int32) (Y : Mem) (s0 : Int32) : Option (Int32 × Mem) :=
  bd2 (M12_fails Y s0 0 0) <| fun r4 Y6 => if r4 = 0 then (M12_rootBlocker_b28 a1 FU Y6 a1 ((-1))) else (some (0, Y6))
noncomputable def M12_rootBlocker (Y : Mem) (a1 : Int32) : Option (Int32 × Mem) :=
  bd1 (M12_isStep Y a1) <| fun r1 => if r1 = 0 then (M12_rootBlocker_b14 a1 Y 1) else (M12_rootBlocker_b14 a1 Y 0)
noncomputable def M12_runScript_b42  : Nat → Mem → Int32 → Int32 → Option (Int32 × Mem)
  | 0, _, _, _ => none
  | n+1, Y, l2, l1 =>
  if l1 ≤ l2 then (some (l2, Y)) else (gd (inb (l2 * 3) 90) <| gd (inb ((l2 * 3) + 1) 90) <| gd (inb ((l2 * 3) + 2) 90) <| bd1 (M12_canDo Y (Y 10 0 9 (ix (l2 * 3))) (Y 10 0 9 (ix ((l2 * 3) + 1))) (Y 10 0 9 (ix ((l2 * 3) + 2)))) <| fun r21 => if r21 = 0 then (some (l2, Y)) else (bd1 (M12_doIt Y (Y 10 0 9 (ix (l2 * 3))) (Y 10 0 9 (ix ((l2 * 3) + 1))) (Y 10 0 9 (ix ((l2 * 3) + 2)))) <| fun Y26 => M12_runScript_b42 n Y26 (l2 + 1) l1))
noncomputable def M12_runScript_b25  (Y : Mem) (l1 : Int32) (s0 : Int32) : Option (Int32 × Mem) :=
  bd2 (M12_fails Y s0 0 0) <| fun r10 Y12 => if r10 = 0 then (bd1 (M12_remember Y12 0) <| fun Y16 => M12_runScript_b42 FU Y16 0 l1) else (some (0, Y12))
noncomputable def M12_runScript (Y : Mem) : Option (Int32 × Mem) :=
  bd1 (M12_begin Y) <| fun Y3 => bd2 (M12_parseScript Y3) <| fun r4 Y6 => lt_ (up Y6 10 0 0 4 0) <| fun Y7 => if r4 = ((-1)) then (M12_runScript_b25 Y7 r4 1) else (M12_runScript_b25 Y7 r4 0)
noncomputable def M12_salt (Y : Mem) : Option (Int32 × Mem) :=
  gd (inb 5 4202) <| bd2 (M12_plain Y (Y 10 0 1 (ix 5))) <| fun r2 Y4 => some (r2, Y4)
noncomputable def M12_saltNeeded_b14  : Nat → Mem → Int32 → Int32 → Option (Int32 × Mem)
  | 0, _, _, _ => none
  | n+1, Y, l2, l1 =>
  gd (inb 13 4202) <| if (Y 10 0 1 (ix 13)) ≤ l2 then (gd (inb 2 4202) <| if (Y 10 0 1 (ix 2)) ≤ l1 then (gd (inb 3 4202) <| if l1 ≤ (Y 10 0 1 (ix 3)) then (some (0, Y)) else (some ((Y 10 0 1 (ix 3)) - l1, Y))) else (some ((Y 10 0 1 (ix 2)) - l1, Y))) else (bd1 (M12_of Y l2 8) <| fun r12 => lt_ (l1 + r12) <| fun v14 => M12_saltNeeded_b14 n Y (l2 + 1) v14)
noncomputable def M12_saltNeeded (Y : Mem) : Option (Int32 × Mem) :=
  lt_ (up Y 10 0 0 9 0) <| fun Y1 => gd (inb 5 4202) <| lt_ (Y1 10 0 1 (ix 5)) <| fun v4 => M12_saltNeeded_b14 FU Y1 0 v4
noncomputable def M12_save_b15 (a1 : Int32) (Y : Mem) (s0 : Int32) : Option (Int32 × Mem) :=
  bd2 (M12_fails Y s0 0 0) <| fun r4 Y6 => if r4 = 0 then (bd1 (M12_copyBlock Y6 0 (7 + a1)) <| fun Y10 => gd (inb a1 2) <| lt_ (up Y10 10 0 2 (ix a1) (vp_nar .boolean 1)) <| fun Y12 => gd (inb 4 4202) <| some (Y12 10 0 1 (ix 4), Y12)) else (some (0, Y6))
noncomputable def M12_save (Y : Mem) (a1 : Int32) : Option (Int32 × Mem) :=
  bd1 (M12_in Y a1 0 1) <| fun r1 => if r1 = 0 then (M12_save_b15 a1 Y 1) else (M12_save_b15 a1 Y 0)
noncomputable def M12_serve_b13  (Y : Mem) (s0 : Int32) : Option (Int32 × Mem) :=
  bd2 (M12_fails Y s0 0 0) <| fun r4 Y6 => if r4 = 0 then (bd1 (M12_remember Y6 0) <| fun Y10 => gd (inb 6 4202) <| lt_ (up Y10 10 0 1 (ix 6) 1) <| fun Y12 => bd1 (M12_tasteNow Y12) <| fun r14 => some (r14, Y12)) else (some (0, Y6))
noncomputable def M12_serve (Y : Mem) : Option (Int32 × Mem) :=
  bd1 (M12_servingReason Y) <| fun r1 => if r1 = 0 then (M12_serve_b13 Y 0) else (M12_serve_b13 Y 1)
noncomputable def M12_setCooks_b15 (a1 : Int32) (Y : Mem) (s0 : Int32) : Option (Int32 × Mem) :=
  bd2 (M12_fails Y s0 0 0) <| fun r4 Y6 => if r4 = 0 then (bd1 (M12_remember Y6 0) <| fun Y10 => gd (inb 0 4202) <| lt_ (Y10 10 0 1 (ix 0)) <| fun v12 => lt_ (up Y10 10 0 1 (ix 0) a1) <| fun Y14 => some (v12, Y14)) else (some (0, Y6))
noncomputable def M12_setCooks (Y : Mem) (a1 : Int32) : Option (Int32 × Mem) :=
  bd1 (M12_in Y a1 1 4) <| fun r1 => if r1 = 0 then (M12_setCooks_b15 a1 Y 1) else (M12_setCooks_b15 a1 Y 0)
noncomputable def M12_setDuration_b29 (a1 : Int32) (a2 : Int32) (Y : Mem) (s0 : Int32) (s1 : Int32) : Option (Int32 × Mem) :=
  bd2 (M12_fails Y s1 s0 0) <| fun r7 Y9 => if r7 = 0 then (bd1 (M12_remember Y9 0) <| fun Y13 => bd1 (M12_of Y13 a1 7) <| fun r14 => bd1 (M12_set Y13 a1 7 a2) <| fun Y18 => some (r14, Y18)) else (some (0, Y9))
noncomputable def M12_setDuration_b14 (a1 : Int32) (a2 : Int32) (Y : Mem) (s0 : Int32) : Option (Int32 × Mem) :=
  bd1 (M12_in Y a2 1 60) <| fun r4 => if r4 = 0 then (M12_setDuration_b29 a1 a2 Y 1 s0) else (M12_setDuration_b29 a1 a2 Y 0 s0)
noncomputable def M12_setDuration (Y : Mem) (a1 : Int32) (a2 : Int32) : Option (Int32 × Mem) :=
  bd1 (M12_isStep Y a1) <| fun r1 => if r1 = 0 then (M12_setDuration_b14 a1 a2 Y 1) else (M12_setDuration_b14 a1 a2 Y 0)
noncomputable def M12_slack_b14 (a1 : Int32) (Y : Mem) (s0 : Int32) : Option (Int32 × Mem) :=
  bd2 (M12_fails Y s0 0 0) <| fun r4 Y6 => if r4 = 0 then (bd1 (M12_computePaths Y6) <| fun Y10 => bd1 (M12_computeHeads Y10) <| fun Y13 => bd1 (M12_longestPath Y13) <| fun r14 => gd (inb a1 14) <| some ((r14 - (Y13 10 0 5 (ix a1))) - (Y13 10 0 6 (ix a1)), Y13)) else (some (0, Y6))
noncomputable def M12_slack (Y : Mem) (a1 : Int32) : Option (Int32 × Mem) :=
  bd1 (M12_isStep Y a1) <| fun r1 => if r1 = 0 then (M12_slack_b14 a1 Y 1) else (M12_slack_b14 a1 Y 0)
noncomputable def M12_starts (Y : Mem) : Option (Int32 × Mem) :=
  gd (inb 7 4202) <| bd2 (M12_plain Y (Y 10 0 1 (ix 7))) <| fun r2 Y4 => some (r2, Y4)
noncomputable def M12_startsOf (Y : Mem) (a1 : Int32) : Option (Int32 × Mem) :=
  bd2 (M12_field Y a1 20) <| fun r1 Y3 => some (r1, Y3)
noncomputable def M12_status (Y : Mem) (a1 : Int32) : Option (Int32 × Mem) :=
  bd2 (M12_field Y a1 17) <| fun r1 Y3 => some (r1, Y3)
noncomputable def M12_statusAfter_b30 (a1 : Int32) (a2 : Int32) (Y : Mem) (s0 : Int32) (s1 : Int32) : Option (Int32 × Mem) :=
  bd2 (M12_fails Y s1 s0 0) <| fun r7 Y9 => if r7 = 0 then (bd1 (M12_copyBlock Y9 0 9) <| fun Y13 => bd2 (M12_passMinutes Y13 a2) <| fun r14 Y16 => bd1 (M12_of Y16 a1 17) <| fun r17 => bd1 (M12_copyBlock Y16 9 0) <| fun Y21 => some (r17, Y21)) else (some (0, Y9))
noncomputable def M12_statusAfter_b14 (a1 : Int32) (a2 : Int32) (Y : Mem) (s0 : Int32) : Option (Int32 × Mem) :=
  bd1 (M12_in Y a2 0 500) <| fun r4 => if r4 = 0 then (M12_statusAfter_b30 a1 a2 Y 1 s0) else (M12_statusAfter_b30 a1 a2 Y 0 s0)
noncomputable def M12_statusAfter (Y : Mem) (a1 : Int32) (a2 : Int32) : Option (Int32 × Mem) :=
  bd1 (M12_isStep Y a1) <| fun r1 => if r1 = 0 then (M12_statusAfter_b14 a1 a2 Y 1) else (M12_statusAfter_b14 a1 a2 Y 0)
noncomputable def M12_stepCount (Y : Mem) : Option (Int32 × Mem) :=
  gd (inb 13 4202) <| bd2 (M12_plain Y (Y 10 0 1 (ix 13))) <| fun r2 Y4 => some (r2, Y4)
noncomputable def M12_stepTaste (Y : Mem) (a1 : Int32) : Option (Int32 × Mem) :=
  bd2 (M12_field Y a1 8) <| fun r1 Y3 => some (r1, Y3)
noncomputable def M12_stop_b36 (a1 : Int32) (Y : Mem) (s0 : Int32) (s1 : Int32) : Option (Int32 × Mem) :=
  bd2 (M12_fails Y s1 s0 0) <| fun r5 Y7 => if r5 = 0 then (bd1 (M12_remember Y7 0) <| fun Y11 => bd2 (M12_stopIt Y11 a1) <| fun r12 Y14 => some (r12, Y14)) else (some (0, Y7))
noncomputable def M12_stop_b35 (a1 : Int32) (Y : Mem) (s0 : Int32) : Option (Int32 × Mem) :=
  M12_stop_b36 a1 Y 0 s0
noncomputable def M12_stop_b16 (a1 : Int32) (Y : Mem) (l2 : Int32) (s0 : Int32) : Option (Int32 × Mem) :=
  if l2 = 0 then (M12_stop_b35 a1 Y s0) else (bd1 (M12_of Y a1 17) <| fun r15 => if r15 = 1 then (M12_stop_b35 a1 Y s0) else (M12_stop_b36 a1 Y 1 s0))
noncomputable def M12_stop (Y : Mem) (a1 : Int32) : Option (Int32 × Mem) :=
  bd1 (M12_isStep Y a1) <| fun r1 => if r1 = 0 then (M12_stop_b16 a1 Y r1 1) else (M12_stop_b16 a1 Y r1 0)
noncomputable def M12_successors_b32 (Y : Mem) (a1 : Int32) (k6 : Int32 → Int32 → Option (Int32)) (l3 : Int32) (s0 : Int32) (s1 : Int32) : Option (Int32) :=
  lt_ (s1 + s0) <| fun v8 => k6 (l3 + 1) v8
noncomputable def M12_successors_b6 (Y : Mem) (a1 : Int32) : Nat → Int32 → Int32 → Option (Int32)
  | 0, _, _ => none
  | n+1, l3, l2 =>
  gd (inb 13 4202) <| if (Y 10 0 1 (ix 13)) ≤ l3 then (some l2) else (bd1 (M12_isPredecessor Y a1 l3) <| fun r5 => if r5 = 0 then (M12_successors_b32 Y a1 (M12_successors_b6 Y a1 n) l3 0 l2) else (M12_successors_b32 Y a1 (M12_successors_b6 Y a1 n) l3 1 l2))
noncomputable def M12_successors (Y : Mem) (a1 : Int32) : Option (Int32) :=
  lt_ (a1 + 1) <| fun v1 => M12_successors_b6 Y a1 FU v1 0
noncomputable def M12_successorCount_b14 (a1 : Int32) (Y : Mem) (s0 : Int32) : Option (Int32 × Mem) :=
  bd2 (M12_fails Y s0 0 0) <| fun r4 Y6 => if r4 = 0 then (bd1 (M12_successors Y6 a1) <| fun r8 => some (r8, Y6)) else (some (0, Y6))
noncomputable def M12_successorCount (Y : Mem) (a1 : Int32) : Option (Int32 × Mem) :=
  bd1 (M12_isStep Y a1) <| fun r1 => if r1 = 0 then (M12_successorCount_b14 a1 Y 1) else (M12_successorCount_b14 a1 Y 0)
noncomputable def M12_taste (Y : Mem) : Option (Int32 × Mem) :=
  bd1 (M12_tasteNow Y) <| fun r1 => bd2 (M12_plain Y r1) <| fun r3 Y5 => some (r3, Y5)
noncomputable def M12_thrown (Y : Mem) : Option (Int32) :=
  some (Y 10 0 0 9)
noncomputable def M12_truncate_b18 (a1 : Int32) (Y : Mem) (s0 : Int32) : Option (Int32 × Mem) :=
  bd2 (M12_fails Y s0 0 0) <| fun r4 Y6 => if r4 = 0 then (lt_ (up Y6 10 0 0 4 a1) <| fun Y8 => some (a1, Y8)) else (some (0, Y6))
noncomputable def M12_truncate (Y : Mem) (a1 : Int32) : Option (Int32 × Mem) :=
  bd1 (M12_in Y a1 0 (Y 10 0 0 4)) <| fun r1 => if r1 = 0 then (M12_truncate_b18 a1 Y 1) else (M12_truncate_b18 a1 Y 0)
noncomputable def M12_undo_b13  (Y : Mem) (s0 : Int32) : Option (Int32 × Mem) :=
  bd2 (M12_fails Y s0 0 0) <| fun r2 Y4 => if r2 = 0 then (bd1 (M12_copyBlock Y4 (Y4 10 0 0 2) 0) <| fun Y8 => lt_ (up Y8 10 0 0 2 ((Y8 10 0 0 2) - 1)) <| fun Y9 => some (Y9 10 0 0 2, Y9)) else (some (0, Y4))
noncomputable def M12_undo (Y : Mem) : Option (Int32 × Mem) :=
  if (Y 10 0 0 2) = 0 then (M12_undo_b13 Y 1) else (M12_undo_b13 Y 0)
noncomputable def M12_whyNotRunning_b14 (a1 : Int32) (Y : Mem) (s0 : Int32) : Option (Int32 × Mem) :=
  bd2 (M12_fails Y s0 0 0) <| fun r4 Y6 => if r4 = 0 then (bd1 (M12_reasonFor Y6 a1) <| fun r8 => some (r8, Y6)) else (some (0, Y6))
noncomputable def M12_whyNotRunning (Y : Mem) (a1 : Int32) : Option (Int32 × Mem) :=
  bd1 (M12_isStep Y a1) <| fun r1 => if r1 = 0 then (M12_whyNotRunning_b14 a1 Y 1) else (M12_whyNotRunning_b14 a1 Y 0)
noncomputable def M12_whyNotServed (Y : Mem) : Option (Int32 × Mem) :=
  lt_ (up Y 10 0 0 9 0) <| fun Y1 => bd1 (M12_servingReason Y1) <| fun r3 => some (r3, Y1)
noncomputable def M12_writeSummary_b35  (k12 : Mem → Int32 → Option (Int32 × Mem)) : Nat → Mem → Int32 → Int32 → Option (Int32 × Mem)
  | 0, _, _, _ => none
  | n+1, Y, l2, l1 =>
  bd1 (M12_of Y l1 0) <| fun r8 => if r8 ≤ l2 then (bd1 (M12_putMark Y l1) <| fun Y13 => k12 Y13 (l1 + 1)) else (bd1 (M12_of Y l1 (1 + l2)) <| fun r14 => bd1 (M12_put Y r14) <| fun Y18 => M12_writeSummary_b35 k12 n Y18 (l2 + 1) l1)
noncomputable def M12_writeSummary_b33  (k12 : Mem → Int32 → Option (Int32 × Mem)) (Y : Mem) (l1 : Int32) : Option (Int32 × Mem) :=
  M12_writeSummary_b35 k12 FU Y 0 l1
noncomputable def M12_writeSummary_b12  : Nat → Mem → Int32 → Option (Int32 × Mem)
  | 0, _, _ => none
  | n+1, Y, l1 =>
  gd (inb 13 4202) <| if (Y 10 0 1 (ix 13)) ≤ l1 then (some (Y 10 0 0 8, Y)) else (if l1 ≤ 0 then (M12_writeSummary_b33 (M12_writeSummary_b12 n) Y l1) else (bd1 (M12_put Y 32) <| fun Y21 => M12_writeSummary_b33 (M12_writeSummary_b12 n) Y21 l1))
noncomputable def M12_writeSummary (Y : Mem) : Option (Int32 × Mem) :=
  lt_ (up Y 10 0 0 9 0) <| fun Y1 => lt_ (up Y1 10 0 0 8 0) <| fun Y3 => M12_writeSummary_b12 FU Y3 0
noncomputable def T11_addSalt (Y : Mem) (a1 : Int32) : Option ((Nat × Mem) ⊕ (Int32 × Mem)) :=
  bd1 (X11_isSaltAmount Y a1) <| fun r1 => if r1 = 0 then (some (.inl (2, Y))) else (if (Y 2 0 0 5) = 0 then (bd1 (X2_push Y 0) <| fun Y7 => lt_ (up Y7 2 0 0 2 ((Y7 2 0 0 2) + a1)) <| fun Y8 => bd1 (X3_dishTaste Y8 0) <| fun r10 => some (.inr (r10, Y8))) else (some (.inl (1, Y))))
noncomputable def T11_requireStep (Y : Mem) (a1 : Int32) : Option ((Nat × Mem) ⊕ Mem) :=
  gd (decide ((Y 1 0 0 0).toNatClampNeg < 2)) <| gd (decide (((Y 1 0 0 0).toNatClampNeg) < 2)) <| bd1 (X11_isWithin Y a1 0 ((Y 4 (2*((Y 1 0 0 0).toNatClampNeg)+1) 0 2) - 1)) <| fun r3 => if r3 = 0 then (some (.inl (3, Y))) else (some (.inr Y))
noncomputable def T11_age (Y : Mem) (a1 : Int32) : Option ((Nat × Mem) ⊕ (Int32 × Mem)) :=
  bdxv (T11_requireStep Y a1) <| fun Y4 => gd (inb a1 14) <| some (.inr (Y4 2 0 3 (ix a1), Y4))
noncomputable def T11_append (Y : Mem) (a1 : Int32) (a2 : Int32) (a3 : Int32) (a4 : Int32) (a5 : Int32) : Option ((Nat × Mem) ⊕ (Int32 × Mem)) :=
  if (Y 5 0 0 1) ≤ 680 then (bd1 (X9_addFourBytes Y 0 a1) <| fun Y4 => bd1 (X9_addFourBytes Y4 0 a2) <| fun Y7 => bd1 (X9_addFourBytes Y7 0 a3) <| fun Y10 => bd1 (X9_addFourBytes Y10 0 a4) <| fun Y13 => bd1 (X9_addFourBytes Y13 0 a5) <| fun Y16 => some (.inr (Y16 5 0 0 1, Y16))) else (some (.inl (1, Y)))
noncomputable def X3_obstacle (Y : Mem) (g0 : Nat) (a1 : Int32) : Option (Int32) :=
  bd1 (X11_contains Y (Y 2 g0 0 6) a1) <| fun r1 => if r1 = 0 then (bd1 (X11_contains Y (Y 2 g0 0 7) a1) <| fun r4 => if r4 = 0 then (gd (decide ((Y 1 g0 0 0).toNatClampNeg < 2)) <| gd (inb a1 14) <| if ((Y 3 (((Y 1 g0 0 0).toNatClampNeg)) 8 (ix a1)) &&& ((Y 2 g0 0 7) ^^^ ((-1)))) = 0 then (bd1 (X3_hasFreePan Y g0 a1) <| fun r10 => if r10 = 0 then (some 3) else (bd1 (X3_hasFreeCook Y g0 a1) <| fun r13 => if r13 = 0 then (some 4) else (some 5))) else (some 2)) else (some 1)) else (some 0)
noncomputable def X3_missingBefore_b2 (Y : Mem) (g0 : Nat) (a1 : Int32) : Nat → Int32 → Option (Int32)
  | 0, _ => none
  | n+1, l2 =>
  gd (decide ((Y 1 g0 0 0).toNatClampNeg < 2)) <| gd (inb a1 14) <| if (Y 3 (((Y 1 g0 0 0).toNatClampNeg)) 7 (ix a1)) ≤ l2 then (some ((-1))) else (gd (inb l2 4) <| lt_ (Y 3 (((Y 1 g0 0 0).toNatClampNeg)) (20+ix a1) (ix l2)) <| fun v5 => bd1 (X11_contains Y (Y 2 g0 0 7) v5) <| fun r7 => if r7 = 0 then (some v5) else (X3_missingBefore_b2 Y g0 a1 n (l2 + 1)))
noncomputable def X3_missingBefore (Y : Mem) (g0 : Nat) (a1 : Int32) : Option (Int32) :=
  X3_missingBefore_b2 Y g0 a1 FU 0
noncomputable def X11_lowestOf_b2 (Y : Mem) (a0 : Int32) : Nat → Int32 → Option (Int32)
  | 0, _ => none
  | n+1, l1 =>
  if 14 ≤ l1 then (some ((-1))) else (bd1 (X11_contains Y a0 l1) <| fun r2 => if r2 = 0 then (X11_lowestOf_b2 Y a0 n (l1 + 1)) else (some l1))
noncomputable def X11_lowestOf (Y : Mem) (a0 : Int32) : Option (Int32) :=
  X11_lowestOf_b2 Y a0 FU 0
noncomputable def X3_blocker (Y : Mem) (g0 : Nat) (a1 : Int32) : Option (Int32) :=
  bd1 (X3_obstacle Y g0 a1) <| fun r1 => if r1 = 2 then (bd1 (X3_missingBefore Y g0 a1) <| fun r4 => some r4) else (if r1 = 3 then (gd (decide ((Y 1 g0 0 0).toNatClampNeg < 2)) <| gd (inb a1 14) <| bd1 (X3_occupants Y g0 (Y 3 (((Y 1 g0 0 0).toNatClampNeg)) 5 (ix a1))) <| fun r9 => bd1 (X11_lowestOf Y r9) <| fun r11 => some r11) else (if r1 = 4 then (gd (decide ((Y 1 g0 0 0).toNatClampNeg < 2)) <| bd1 (X11_lowestOf Y ((Y 2 g0 0 6) &&& ((Y 3 ((Y 1 g0 0 0).toNatClampNeg) 0 16) ^^^ ((-1))))) <| fun r15 => some r15) else (some ((-1)))))
noncomputable def T11_blockingStep (Y : Mem) (a1 : Int32) : Option ((Nat × Mem) ⊕ (Int32 × Mem)) :=
  bdxv (T11_requireStep Y a1) <| fun Y4 => bd1 (X3_blocker Y4 0 a1) <| fun r7 => some (.inr (r7, Y4))
noncomputable def X3_copyFrom (Y : Mem) (g0 : Nat) (g1 : Nat) : Option (Mem) :=
  gd (decide ((Y 1 g1 0 0).toNatClampNeg < 2)) <| lt_ (up Y 1 g0 0 0 (Int32.ofNat ((Y 1 g1 0 0).toNatClampNeg))) <| fun Y1 => bd1 (X8_copyFrom Y1 g0 g1) <| fun Y6 => some Y6
noncomputable def X3_runToFinish_b6 (g0 : Nat) : Nat → Mem → Int32 → Option (Int32 × Mem)
  | 0, _, _ => none
  | n+1, Y, l1 =>
  if 500 ≤ l1 then (gd (decide (((Y 1 g0 0 0).toNatClampNeg) < 2)) <| gd (decide ((Y 1 g0 0 0).toNatClampNeg < 2)) <| bd1 (X5_allSteps Y ((Y 1 g0 0 0).toNatClampNeg)) <| fun r7 => if (Y 2 g0 0 7) = r7 then (some (500, Y)) else (some ((-1), Y))) else (gd (decide (((Y 1 g0 0 0).toNatClampNeg) < 2)) <| gd (decide ((Y 1 g0 0 0).toNatClampNeg < 2)) <| bd1 (X5_allSteps Y ((Y 1 g0 0 0).toNatClampNeg)) <| fun r12 => if (Y 2 g0 0 7) = r12 then (some (l1, Y)) else (bd2 (X3_runMinute Y g0) <| fun r15 Y17 => X3_runToFinish_b6 g0 n Y17 (l1 + 1)))
noncomputable def X3_runToFinish (Y : Mem) (g0 : Nat) : Option (Int32 × Mem) :=
  bd1 (X3_rank Y g0) <| fun Y3 => X3_runToFinish_b6 g0 FU Y3 0
noncomputable def X11_finishWithShorter_b43 (a1 : Int32) (Y : Mem) : Option (Int32 × Mem) :=
  bd2 (X3_runToFinish Y 1) <| fun r6 Y8 => if r6 = ((-1)) then (some (501, Y8)) else (some (r6, Y8))
noncomputable def X11_finishWithShorter (Y : Mem) (a1 : Int32) : Option (Int32 × Mem) :=
  bd1 (X3_copyFrom Y 1 0) <| fun Y3 => gd (inb a1 14) <| if (Y3 2 1 1 (ix a1)) ≤ 1 then (X11_finishWithShorter_b43 a1 Y3) else (lt_ (up Y3 2 1 1 (ix a1) ((Y3 2 1 1 (ix a1)) - 1)) <| fun Y10 => X11_finishWithShorter_b43 a1 Y10)
noncomputable def T11_bottleneck_b63  (k6 : Mem → Int32 → Int32 → Int32 → Option ((Nat × Mem) ⊕ (Int32 × Mem))) (Y : Mem) (l3 : Int32) (l2 : Int32) (l1 : Int32) : Option ((Nat × Mem) ⊕ (Int32 × Mem)) :=
  k6 Y (l3 + 1) l2 l1
noncomputable def T11_bottleneck_b58  (k6 : Mem → Int32 → Int32 → Int32 → Option ((Nat × Mem) ⊕ (Int32 × Mem))) (Y : Mem) (l4 : Int32) (l3 : Int32) : Option ((Nat × Mem) ⊕ (Int32 × Mem)) :=
  T11_bottleneck_b63 k6 Y l3 l4 l3
noncomputable def T11_bottleneck_b6  : Nat → Mem → Int32 → Int32 → Int32 → Option ((Nat × Mem) ⊕ (Int32 × Mem))
  | 0, _, _, _, _ => none
  | n+1, Y, l3, l2, l1 =>
  gd (decide ((Y 1 0 0 0).toNatClampNeg < 2)) <| gd (decide (((Y 1 0 0 0).toNatClampNeg) < 2)) <| if (Y 4 (2*((Y 1 0 0 0).toNatClampNeg)+1) 0 2) ≤ l3 then (if l1 = ((-1)) then (some (.inl (4, Y))) else (some (.inr (l1, Y)))) else (bd1 (X11_contains Y (Y 2 0 0 7) l3) <| fun r5 => if r5 = 0 then (bd2 (X11_finishWithShorter Y l3) <| fun r8 Y10 => if l1 = ((-1)) then (T11_bottleneck_b58 (T11_bottleneck_b6 n) Y10 r8 l3) else (if l2 ≤ r8 then (T11_bottleneck_b63 (T11_bottleneck_b6 n) Y10 l3 l2 l1) else (T11_bottleneck_b58 (T11_bottleneck_b6 n) Y10 r8 l3))) else (T11_bottleneck_b63 (T11_bottleneck_b6 n) Y l3 l2 l1))
noncomputable def T11_bottleneck (Y : Mem) : Option ((Nat × Mem) ⊕ (Int32 × Mem)) :=
  T11_bottleneck_b6 FU Y 0 0 ((-1))
noncomputable def X11_carryOut (Y : Mem) (w1 : Nat) (a2 : Int32) (a3 : Int32) : Option (Mem) :=
  gd (decide (w1 < 8)) <| gd (inb ((Int32.ofNat w1)) 8) <| if (sSw (ix ((Int32.ofNat w1)))) = 1 then (bd2 (X3_runMinutes Y 0 a3) <| fun r4 Y6 => some Y6) else (if (sSw (ix ((Int32.ofNat w1)))) = 2 then (lt_ (up Y 2 0 0 2 ((Y 2 0 0 2) + a3)) <| fun Y8 => some Y8) else (if (sSw (ix ((Int32.ofNat w1)))) = 3 then (lt_ (up Y 2 0 0 2 ((Y 2 0 0 2) - a3)) <| fun Y11 => some Y11) else (if (sSw (ix ((Int32.ofNat w1)))) = 4 then (bd2 (X8_halt Y 0 a2) <| fun r14 Y16 => some Y16) else (if (sSw (ix ((Int32.ofNat w1)))) = 5 then (bd2 (X8_discard Y 0 a2) <| fun r18 Y20 => some Y20) else (if (sSw (ix ((Int32.ofNat w1)))) = 6 then (lt_ (up Y 2 0 0 0 a3) <| fun Y22 => some Y22) else (if (sSw (ix ((Int32.ofNat w1)))) = 7 then (gd (inb a2 14) <| lt_ (up Y 2 0 1 (ix a2) a3) <| fun Y26 => some Y26) else (lt_ (up Y 2 0 0 5 1) <| fun Y28 => some Y28)))))))
noncomputable def T11_countWithStatus_b58 (a1 : Int32) (k23 : Mem → Int32 → Int32 → Option ((Nat × Mem) ⊕ (Int32 × Mem))) (Y : Mem) (l3 : Int32) (l2 : Int32) : Option ((Nat × Mem) ⊕ (Int32 × Mem)) :=
  k23 Y (l3 + 1) l2
noncomputable def T11_countWithStatus_b23 (a1 : Int32) : Nat → Mem → Int32 → Int32 → Option ((Nat × Mem) ⊕ (Int32 × Mem))
  | 0, _, _, _ => none
  | n+1, Y, l3, l2 =>
  gd (decide ((Y 1 0 0 0).toNatClampNeg < 2)) <| gd (decide (((Y 1 0 0 0).toNatClampNeg) < 2)) <| if (Y 4 (2*((Y 1 0 0 0).toNatClampNeg)+1) 0 2) ≤ l3 then (some (.inr (l2, Y))) else (bd1 (X8_statusOf Y 0 l3) <| fun r7 => if r7 = a1 then (T11_countWithStatus_b58 a1 (T11_countWithStatus_b23 a1 n) Y l3 (l2 + 1)) else (T11_countWithStatus_b58 a1 (T11_countWithStatus_b23 a1 n) Y l3 l2))
noncomputable def T11_countWithStatus (Y : Mem) (a1 : Int32) : Option ((Nat × Mem) ⊕ (Int32 × Mem)) :=
  bd1 (X11_isWithin Y a1 0 3) <| fun r1 => if r1 = 0 then (some (.inl (2, Y))) else (T11_countWithStatus_b23 a1 FU Y 0 0)
noncomputable def X3_criticalAt_b40 (g0 : Nat) (a1 : Int32) : Nat → Mem → Int32 → Int32 → Option (Int32 × Mem)
  | 0, _, _, _ => none
  | n+1, Y, l3, l2 =>
  if a1 ≤ l3 then (some (l2, Y)) else (if l2 = ((-1)) then (some (l2, Y)) else (gd (decide ((Y 1 g0 0 0).toNatClampNeg < 2)) <| gd (inb l2 14) <| bd1 (X3_longestOf Y g0 (Y 3 (((Y 1 g0 0 0).toNatClampNeg)) 9 (ix l2))) <| fun r19 => X3_criticalAt_b40 g0 a1 n Y (l3 + 1) r19))
noncomputable def X3_criticalAt (Y : Mem) (g0 : Nat) (a1 : Int32) : Option (Int32 × Mem) :=
  gd (decide ((Y 1 g0 0 0).toNatClampNeg < 2)) <| gd (decide (((Y 1 g0 0 0).toNatClampNeg) < 2)) <| bd1 (X11_isWithin Y a1 0 ((Y 4 (2*((Y 1 g0 0 0).toNatClampNeg)+1) 0 2) - 1)) <| fun r3 => if r3 = 0 then (some ((-1), Y)) else (bd1 (X3_rank Y g0) <| fun Y8 => gd (decide (((Y8 1 g0 0 0).toNatClampNeg) < 2)) <| gd (decide ((Y8 1 g0 0 0).toNatClampNeg < 2)) <| bd1 (X5_allSteps Y8 ((Y8 1 g0 0 0).toNatClampNeg)) <| fun r11 => bd1 (X3_longestOf Y8 g0 r11) <| fun r13 => X3_criticalAt_b40 g0 a1 FU Y8 0 r13)
noncomputable def X11_criticalStep (Y : Mem) (a1 : Int32) : Option (Int32 × Mem) :=
  bd2 (X3_criticalAt Y 0 a1) <| fun r1 Y3 => some (r1, Y3)
noncomputable def X5_allBefore_b32 (Y : Mem) (g0 : Nat) (a1 : Int32) (k11 : Int32 → Int32 → Option (Int32)) (l3 : Int32) (l2 : Int32) : Option (Int32) :=
  k11 (l3 + (-1)) l2
noncomputable def X5_allBefore_b11 (Y : Mem) (g0 : Nat) (a1 : Int32) : Nat → Int32 → Int32 → Option (Int32)
  | 0, _, _ => none
  | n+1, l3, l2 =>
  if l3 < 0 then (some l2) else (bd1 (X11_contains Y l2 l3) <| fun r7 => if r7 = 0 then (X5_allBefore_b32 Y g0 a1 (X5_allBefore_b11 Y g0 a1 n) l3 l2) else (gd (inb l3 14) <| lt_ (l2 ||| (Y 3 g0 8 (ix l3))) <| fun v11 => X5_allBefore_b32 Y g0 a1 (X5_allBefore_b11 Y g0 a1 n) l3 v11))
noncomputable def X5_allBefore (Y : Mem) (g0 : Nat) (a1 : Int32) : Option (Int32) :=
  gd (inb a1 14) <| lt_ (Y 3 g0 8 (ix a1)) <| fun v2 => lt_ (a1 - 1) <| fun v4 => X5_allBefore_b11 Y g0 a1 FU v4 v2
noncomputable def T11_dependsOn (Y : Mem) (a1 : Int32) (a2 : Int32) : Option ((Nat × Mem) ⊕ (Int32 × Mem)) :=
  bdxv (T11_requireStep Y a1) <| fun Y4 => bdxv (T11_requireStep Y4 a2) <| fun Y10 => gd (decide ((Y10 1 0 0 0).toNatClampNeg < 2)) <| bd1 (X5_allBefore Y10 ((Y10 1 0 0 0).toNatClampNeg) a1) <| fun r14 => bd1 (X11_contains Y10 r14 a2) <| fun r16 => gd (decide (r16 = 0 ∨ r16 = 1)) <| some (.inr (r16, Y10))
noncomputable def X11_stepsToShareBy (Y : Mem) : Option (Int32) :=
  gd (decide ((Y 1 0 0 0).toNatClampNeg < 2)) <| gd (decide (((Y 1 0 0 0).toNatClampNeg) < 2)) <| some ((if 1 < (Y 4 (2*((Y 1 0 0 0).toNatClampNeg)+1) 0 2) then (Y 4 (2*((Y 1 0 0 0).toNatClampNeg)+1) 0 2) else 1))
noncomputable def X11_doneShare (Y : Mem) : Option (UInt32) :=
  bd1 (J6_bitCount_0f7a4 Y (Y 2 0 0 7)) <| fun r1 => bd1 (X11_stepsToShareBy Y) <| fun r3 => gd (decide (FP.fdiv (FP.i2f r1) (FP.i2f r3) &&& 0x7fffffff ≤ 0x7f800000)) <| some (FP.fdiv (FP.i2f r1) (FP.i2f r3))
noncomputable def T11_duration (Y : Mem) (a1 : Int32) : Option ((Nat × Mem) ⊕ (Int32 × Mem)) :=
  bdxv (T11_requireStep Y a1) <| fun Y4 => gd (inb a1 14) <| some (.inr (Y4 2 0 1 (ix a1), Y4))
noncomputable def X11_errorCode (Y : Mem) : Option (Int32) :=
  some (Y 6 0 0 4)
noncomputable def X11_errorPosition (Y : Mem) : Option (Int32) :=
  some (Y 6 0 0 5)
noncomputable def X11_finishWithCooks (Y : Mem) (a1 : Int32) : Option (Int32 × Mem) :=
  bd1 (X3_copyFrom Y 1 0) <| fun Y3 => lt_ (up Y3 2 1 0 0 a1) <| fun Y4 => bd2 (X3_runToFinish Y4 1) <| fun r6 Y8 => some (r6, Y8)
noncomputable def X11_fewestCooks_b8  : Nat → Mem → Int32 → Int32 → Option (Int32 × Mem)
  | 0, _, _, _ => none
  | n+1, Y, l2, l1 =>
  if 4 ≤ l2 then (some (4, Y)) else (bd2 (X11_finishWithCooks Y l2) <| fun r5 Y7 => if r5 = l1 then (some (l2, Y7)) else (X11_fewestCooks_b8 n Y7 (l2 + 1) l1))
noncomputable def X11_fewestCooks (Y : Mem) : Option (Int32 × Mem) :=
  bd2 (X11_finishWithCooks Y 4) <| fun r1 Y3 => X11_fewestCooks_b8 FU Y3 1 r1
noncomputable def T11_findStep (Y : Mem) : Option ((Nat × Mem) ⊕ (Int32 × Mem)) :=
  gd (decide ((Y 1 0 0 0).toNatClampNeg < 2)) <| gd (decide (((Y 1 0 0 0).toNatClampNeg) < 2)) <| bd1 (X4_indexOf Y (2*((Y 1 0 0 0).toNatClampNeg)+1) 0 0 (Y 5 0 0 1)) <| fun r3 => if r3 = ((-1)) then (some (.inl (4, Y))) else (some (.inr (r3, Y)))
noncomputable def X11_isAllowed (Y : Mem) (w1 : Nat) (a2 : Int32) (a3 : Int32) : Option (Int32) :=
  gd (decide (w1 < 8)) <| gd (inb ((Int32.ofNat w1)) 8) <| if (sSw (ix ((Int32.ofNat w1)))) = 1 then (bd1 (X11_isPassLength Y a3) <| fun r4 => if r4 = 0 then (some 0) else (bd1 (X11_fitsClock Y a3) <| fun r7 => if r7 = 0 then (some 0) else (some 1))) else (if (sSw (ix ((Int32.ofNat w1)))) = 2 then (bd1 (X11_isSaltAmount Y a3) <| fun r11 => if r11 = 0 then (some 0) else (if (Y 2 0 0 5) = 0 then (some 1) else (some 0))) else (if (sSw (ix ((Int32.ofNat w1)))) = 3 then (bd1 (X11_isSaltAmount Y a3) <| fun r16 => if r16 = 0 then (some 0) else (if (Y 2 0 0 5) = 0 then (some 1) else (some 0))) else (if (sSw (ix ((Int32.ofNat w1)))) = 4 then (bd1 (X11_contains Y (Y 2 0 0 6) a2) <| fun r21 => gd (decide (r21 = 0 ∨ r21 = 1)) <| some r21) else (if (sSw (ix ((Int32.ofNat w1)))) = 5 then (bd1 (X3_isRedoable Y 0 a2) <| fun r25 => gd (decide (r25 = 0 ∨ r25 = 1)) <| some r25) else (if (sSw (ix ((Int32.ofNat w1)))) = 6 then (bd1 (X11_isCookCount Y a3) <| fun r29 => gd (decide (r29 = 0 ∨ r29 = 1)) <| some r29) else (if (sSw (ix ((Int32.ofNat w1)))) = 7 then (bd1 (X11_isDuration Y a3) <| fun r33 => gd (decide (r33 = 0 ∨ r33 = 1)) <| some r33) else (bd1 (X3_servingObstacle Y 0) <| fun r36 => if r36 = 0 then (some 1) else (some 0))))))))
noncomputable def T11_isHot (Y : Mem) (a1 : Int32) : Option ((Nat × Mem) ⊕ (Int32 × Mem)) :=
  bdxv (T11_requireStep Y a1) <| fun Y4 => gd (decide ((Y4 1 0 0 0).toNatClampNeg < 2)) <| bd1 (X11_contains Y4 (Y4 3 ((Y4 1 0 0 0).toNatClampNeg) 0 15) a1) <| fun r8 => gd (decide (r8 = 0 ∨ r8 = 1)) <| some (.inr (r8, Y4))
noncomputable def T11_isTakenUp (Y : Mem) (a1 : Int32) : Option ((Nat × Mem) ⊕ (Int32 × Mem)) :=
  bdxv (T11_requireStep Y a1) <| fun Y4 => bd1 (X11_contains Y4 (Y4 2 0 0 7) a1) <| fun r7 => if r7 = 0 then (some (.inr (0, Y4))) else (bd1 (X3_isContinued Y4 0 a1) <| fun r10 => if r10 = 0 then (some (.inr (0, Y4))) else (some (.inr (1, Y4))))
noncomputable def T11_isUnattended (Y : Mem) (a1 : Int32) : Option ((Nat × Mem) ⊕ (Int32 × Mem)) :=
  bdxv (T11_requireStep Y a1) <| fun Y4 => gd (decide ((Y4 1 0 0 0).toNatClampNeg < 2)) <| bd1 (X11_contains Y4 (Y4 3 ((Y4 1 0 0 0).toNatClampNeg) 0 16) a1) <| fun r8 => gd (decide (r8 = 0 ∨ r8 = 1)) <| some (.inr (r8, Y4))
noncomputable def T11_requireNoError (Y : Mem) : Option ((Nat × Mem) ⊕ Mem) :=
  if (Y 6 0 0 4) = 0 then (some (.inr Y)) else (some (.inl (2, Y)))
noncomputable def T11_load_b49  : Nat → Mem → Int32 → Option ((Nat × Mem) ⊕ (Int32 × Mem))
  | 0, _, _ => none
  | n+1, Y, l2 =>
  if 2 ≤ l2 then (lt_ (up Y 9 0 0 2 0) <| fun Y22 => gd (decide ((Y22 1 0 0 0).toNatClampNeg < 2)) <| gd (decide (((Y22 1 0 0 0).toNatClampNeg) < 2)) <| some (.inr (Y22 4 (2*((Y22 1 0 0 0).toNatClampNeg)+1) 0 2, Y22))) else (gd (inb l2 2) <| lt_ (up Y 0 0 2 (ix l2) (vp_nar .boolean 0)) <| fun Y27 => T11_load_b49 n Y27 (l2 + 1))
noncomputable def T11_load (Y : Mem) : Option ((Nat × Mem) ⊕ (Int32 × Mem)) :=
  gd (decide ((Y 0 0 0 10).toNatClampNeg < 2)) <| gd (decide (((Y 0 0 0 10).toNatClampNeg) < 2)) <| bd1 (X7_readInto Y ((Y 0 0 0 10).toNatClampNeg)) <| fun Y5 => lt_ (up Y5 5 0 0 1 0) <| fun Y6 => bdxv (T11_requireNoError Y6) <| fun Y11 => gd (decide ((Y11 0 0 0 10).toNatClampNeg < 2)) <| bd1 (X3_open Y11 0 ((Y11 0 0 0 10).toNatClampNeg)) <| fun Y17 => gd (decide ((Y11 1 0 0 0).toNatClampNeg < 2)) <| lt_ (up Y17 0 0 0 10 (Int32.ofNat ((Y11 1 0 0 0).toNatClampNeg))) <| fun Y18 => T11_load_b49 FU Y18 0
noncomputable def X11_meanDuration (Y : Mem) : Option (UInt64) :=
  gd (decide ((Y 1 0 0 0).toNatClampNeg < 2)) <| gd (decide (((Y 1 0 0 0).toNatClampNeg) < 2)) <| bd1 (X11_sum Y 2 0 1 14 (Y 4 (2*((Y 1 0 0 0).toNatClampNeg)+1) 0 2)) <| fun r3 => bd1 (X11_stepsToShareBy Y) <| fun r5 => gd (decide (FP.ddiv (FP.i2d r3) (FP.i2d r5) &&& 0x7fffffffffffffff ≤ 0x7ff0000000000000)) <| some (FP.ddiv (FP.i2d r3) (FP.i2d r5))
noncomputable def X3_runToBurn_b16 (g0 : Nat) (a1 : Int32) : Nat → Mem → Int32 → Int32 → Option (Int32 × Mem)
  | 0, _, _, _ => none
  | n+1, Y, l3, l2 =>
  if 500 < l3 then (some ((-1), Y)) else (bd2 (X3_runMinute Y g0) <| fun r8 Y10 => gd (inb a1 14) <| if (Y10 2 g0 6 (ix a1)) ≤ l2 then (X3_runToBurn_b16 g0 a1 n Y10 (l3 + 1) l2) else (some (l3, Y10)))
noncomputable def X3_runToBurn (Y : Mem) (g0 : Nat) (a1 : Int32) : Option (Int32 × Mem) :=
  bd1 (X3_rank Y g0) <| fun Y3 => gd (inb a1 14) <| lt_ (Y3 2 g0 6 (ix a1)) <| fun v5 => X3_runToBurn_b16 g0 a1 FU Y3 1 v5
noncomputable def T11_minutesToBurn (Y : Mem) (a1 : Int32) : Option ((Nat × Mem) ⊕ (Int32 × Mem)) :=
  bdxv (T11_requireStep Y a1) <| fun Y4 => bd1 (X3_copyFrom Y4 1 0) <| fun Y9 => bd2 (X3_runToBurn Y9 1 a1) <| fun r10 Y12 => some (.inr (r10, Y12))
noncomputable def X11_minutesToFinish (Y : Mem) : Option (Int32 × Mem) :=
  bd1 (X3_copyFrom Y 1 0) <| fun Y3 => bd2 (X3_runToFinish Y3 1) <| fun r4 Y6 => some (r4, Y6)
noncomputable def T11_requireCooks (Y : Mem) (a1 : Int32) : Option ((Nat × Mem) ⊕ Mem) :=
  bd1 (X11_isCookCount Y a1) <| fun r1 => if r1 = 0 then (some (.inl (2, Y))) else (some (.inr Y))
noncomputable def T11_minutesWithCooks (Y : Mem) (a1 : Int32) : Option ((Nat × Mem) ⊕ (Int32 × Mem)) :=
  bdxv (T11_requireCooks Y a1) <| fun Y4 => bd2 (X11_finishWithCooks Y4 a1) <| fun r7 Y9 => some (.inr (r7, Y9))
noncomputable def T11_nameLetter (Y : Mem) (a1 : Int32) (a2 : Int32) : Option ((Nat × Mem) ⊕ (Int32 × Mem)) :=
  bdxv (T11_requireStep Y a1) <| fun Y4 => gd (decide ((Y4 1 0 0 0).toNatClampNeg < 2)) <| gd (decide (((Y4 1 0 0 0).toNatClampNeg) < 2)) <| gd (inb a1 (ncap ((2*((Y4 1 0 0 0).toNatClampNeg)+1)))) <| bd1 (X11_isWithin Y4 a2 0 ((Y4 4 ((2*((Y4 1 0 0 0).toNatClampNeg)+1)) 2 (ix a1)) - 1)) <| fun r10 => if r10 = 0 then (some (.inl (3, Y4))) else (gd (inb a2 6) <| some (.inr (Y4 4 ((2*((Y4 1 0 0 0).toNatClampNeg)+1)) (10+ix a1) (ix a2), Y4)))
noncomputable def T11_outputByte (Y : Mem) (a1 : Int32) : Option ((Nat × Mem) ⊕ (Int32 × Mem)) :=
  bd1 (X11_isWithin Y a1 0 ((Y 5 1 0 1) - 1)) <| fun r1 => if r1 = 0 then (some (.inl (3, Y))) else (gd (inb a1 (tcap (1))) <| some (.inr (Y 5 1 1 (ix a1), Y)))
noncomputable def T11_requirePan (Y : Mem) (a1 : Int32) : Option ((Nat × Mem) ⊕ Mem) :=
  gd (decide ((Y 1 0 0 0).toNatClampNeg < 2)) <| gd (decide (((Y 1 0 0 0).toNatClampNeg) < 2)) <| bd1 (X11_isWithin Y a1 0 ((Y 4 (2*((Y 1 0 0 0).toNatClampNeg)) 0 2) - 1)) <| fun r3 => if r3 = 0 then (some (.inl (3, Y))) else (some (.inr Y))
noncomputable def T11_panCapacity (Y : Mem) (a1 : Int32) : Option ((Nat × Mem) ⊕ (Int32 × Mem)) :=
  bdxv (T11_requirePan Y a1) <| fun Y4 => gd (decide ((Y4 1 0 0 0).toNatClampNeg < 2)) <| gd (inb a1 4) <| some (.inr (Y4 3 (((Y4 1 0 0 0).toNatClampNeg)) 1 (ix a1), Y4))
noncomputable def T11_panType (Y : Mem) (a1 : Int32) : Option ((Nat × Mem) ⊕ (Int32 × Mem)) :=
  bdxv (T11_requireStep Y a1) <| fun Y4 => gd (decide ((Y4 1 0 0 0).toNatClampNeg < 2)) <| gd (inb a1 14) <| some (.inr (Y4 3 (((Y4 1 0 0 0).toNatClampNeg)) 5 (ix a1), Y4))
noncomputable def T11_pansInUse (Y : Mem) (a1 : Int32) : Option ((Nat × Mem) ⊕ (Int32 × Mem)) :=
  bdxv (T11_requirePan Y a1) <| fun Y4 => bd1 (X3_occupants Y4 0 a1) <| fun r7 => bd1 (J6_bitCount_0f7a4 Y4 r7) <| fun r9 => some (.inr (r9, Y4))
noncomputable def T11_pass (Y : Mem) (a1 : Int32) : Option ((Nat × Mem) ⊕ (Int32 × Mem)) :=
  bd1 (X11_isPassLength Y a1) <| fun r1 => if r1 = 0 then (some (.inl (2, Y))) else (bd1 (X11_fitsClock Y a1) <| fun r4 => if r4 = 0 then (some (.inl (1, Y))) else (bd1 (X2_push Y 0) <| fun Y9 => bd2 (X3_runMinutes Y9 0 a1) <| fun r10 Y12 => some (.inr (r10, Y12))))
noncomputable def T11_pathLength (Y : Mem) (a1 : Int32) : Option ((Nat × Mem) ⊕ (Int32 × Mem)) :=
  bdxv (T11_requireStep Y a1) <| fun Y4 => bd1 (X3_rank Y4 0) <| fun Y9 => gd (inb a1 14) <| some (.inr (Y9 1 0 1 (ix a1), Y9))
noncomputable def T11_predecessor (Y : Mem) (a1 : Int32) (a2 : Int32) : Option ((Nat × Mem) ⊕ (Int32 × Mem)) :=
  bdxv (T11_requireStep Y a1) <| fun Y4 => gd (decide ((Y4 1 0 0 0).toNatClampNeg < 2)) <| gd (inb a1 14) <| bd1 (X11_isWithin Y4 a2 0 ((Y4 3 (((Y4 1 0 0 0).toNatClampNeg)) 7 (ix a1)) - 1)) <| fun r9 => if r9 = 0 then (some (.inr ((-1), Y4))) else (gd (inb a2 4) <| some (.inr (Y4 3 (((Y4 1 0 0 0).toNatClampNeg)) (20+ix a1) (ix a2), Y4)))
noncomputable def X3_readyAt_b59 (g0 : Nat) (a1 : Int32) (k14 : Mem → Int32 → Int32 → Int32 → Option (Int32 × Mem)) (Y : Mem) (l4 : Int32) (l3 : Int32) (l2 : Int32) : Option (Int32 × Mem) :=
  k14 Y (l4 + 1) l3 l2
noncomputable def X3_readyAt_b14 (g0 : Nat) (a1 : Int32) : Nat → Mem → Int32 → Int32 → Int32 → Option (Int32 × Mem)
  | 0, _, _, _, _ => none
  | n+1, Y, l4, l3, l2 =>
  gd (decide ((Y 1 g0 0 0).toNatClampNeg < 2)) <| gd (decide (((Y 1 g0 0 0).toNatClampNeg) < 2)) <| if (Y 4 (2*((Y 1 g0 0 0).toNatClampNeg)+1) 0 2) ≤ l4 then (some ((-1), Y)) else (gd (inb l4 14) <| bd1 (X11_contains Y l2 (Y 1 g0 2 (ix l4))) <| fun r10 => if r10 = 0 then (X3_readyAt_b59 g0 a1 (X3_readyAt_b14 g0 a1 n) Y l4 l3 l2) else (if l3 = a1 then (some (Y 1 g0 2 (ix l4), Y)) else (X3_readyAt_b59 g0 a1 (X3_readyAt_b14 g0 a1 n) Y l4 (l3 + 1) l2)))
noncomputable def X3_readyAt (Y : Mem) (g0 : Nat) (a1 : Int32) : Option (Int32 × Mem) :=
  bd1 (X3_rank Y g0) <| fun Y3 => bd1 (X3_readySteps Y3 g0) <| fun r4 => X3_readyAt_b14 g0 a1 FU Y3 0 0 r4
noncomputable def X11_readyStep (Y : Mem) (a1 : Int32) : Option (Int32 × Mem) :=
  bd2 (X3_readyAt Y 0 a1) <| fun r1 Y3 => some (r1, Y3)
noncomputable def T11_redo (Y : Mem) (a1 : Int32) : Option ((Nat × Mem) ⊕ (Int32 × Mem)) :=
  bdxv (T11_requireStep Y a1) <| fun Y4 => bd1 (X3_isRedoable Y4 0 a1) <| fun r7 => if r7 = 0 then (some (.inl (1, Y4))) else (bd1 (X2_push Y4 0) <| fun Y12 => bd2 (X8_discard Y12 0 a1) <| fun r13 Y15 => some (.inr (r13, Y15)))
noncomputable def T11_remaining (Y : Mem) (a1 : Int32) : Option ((Nat × Mem) ⊕ (Int32 × Mem)) :=
  bdxv (T11_requireStep Y a1) <| fun Y4 => gd (inb a1 14) <| some (.inr (Y4 2 0 2 (ix a1), Y4))
noncomputable def T11_requireSlot (Y : Mem) (a1 : Int32) : Option ((Nat × Mem) ⊕ Mem) :=
  bd1 (X11_isWithin Y a1 0 1) <| fun r1 => if r1 = 0 then (some (.inl (3, Y))) else (some (.inr Y))
noncomputable def T11_restore (Y : Mem) (a1 : Int32) : Option ((Nat × Mem) ⊕ (Int32 × Mem)) :=
  bdxv (T11_requireSlot Y a1) <| fun Y4 => gd (inb a1 2) <| if (Y4 0 0 2 (ix a1)) = 0 then (some (.inl (1, Y4))) else (bd1 (X8_copyFrom Y4 0 (8+ix (a1))) <| fun Y11 => lt_ (up Y11 9 0 0 2 0) <| fun Y12 => some (.inr (Y12 2 0 0 1, Y12)))
noncomputable def X3_deepestMissing_b45 (Y : Mem) (g0 : Nat) (a1 : Int32) (k7 : Int32 → Int32 → Int32 → Option (Int32)) (l3 : Int32) (l4 : Int32) (l2 : Int32) : Option (Int32) :=
  k7 (l4 + 1) l3 l2
noncomputable def X3_deepestMissing_b37 (Y : Mem) (g0 : Nat) (a1 : Int32) (k7 : Int32 → Int32 → Int32 → Option (Int32)) (l4 : Int32) (l2 : Int32) (s0 : Int32) : Option (Int32) :=
  if s0 = ((-1)) then (X3_deepestMissing_b45 Y g0 a1 k7 s0 l4 l2) else (X3_deepestMissing_b45 Y g0 a1 k7 s0 l4 s0)
noncomputable def X3_deepestMissing_b7 (Y : Mem) (g0 : Nat) (a1 : Int32) : Nat → Int32 → Int32 → Int32 → Option (Int32)
  | 0, _, _, _ => none
  | n+1, l4, l3, l2 =>
  if 14 ≤ l4 then (some l2) else (if l3 = ((-1)) then (some l2) else (bd1 (X3_obstacle Y g0 l3) <| fun r3 => if r3 = 2 then (bd1 (X3_missingBefore Y g0 l3) <| fun r7 => X3_deepestMissing_b37 Y g0 a1 (X3_deepestMissing_b7 Y g0 a1 n) l4 l2 r7) else (X3_deepestMissing_b37 Y g0 a1 (X3_deepestMissing_b7 Y g0 a1 n) l4 l2 ((-1)))))
noncomputable def X3_deepestMissing (Y : Mem) (g0 : Nat) (a1 : Int32) : Option (Int32) :=
  X3_deepestMissing_b7 Y g0 a1 FU 0 a1 ((-1))
noncomputable def T11_rootBlocker (Y : Mem) (a1 : Int32) : Option ((Nat × Mem) ⊕ (Int32 × Mem)) :=
  bdxv (T11_requireStep Y a1) <| fun Y4 => bd1 (X3_deepestMissing Y4 0 a1) <| fun r7 => some (.inr (r7, Y4))
noncomputable def X6_findCommand_b9 (Y : Mem) : Nat → Int32 → Int32 → Option (Option Nat)
  | 0, _, _ => none
  | n+1, l3, l2 =>
  if l2 ≤ l3 then (some none) else (gd (inb l3 8) <| lt_ (ix l3) <| fun v3 => bd1 (X10_isWord Y (8 + v3)) <| fun r6 => if r6 = 0 then (X6_findCommand_b9 Y n (l3 + 1) l2) else (some (some v3)))
noncomputable def X6_findCommand (Y : Mem) : Option (Option Nat) :=
  X6_findCommand_b9 Y FU 0 8
noncomputable def X6_readStepName (Y : Mem) (g1 : Nat) : Option (Int32 × Mem) :=
  bd2 (X10_findName Y g1) <| fun r1 Y3 => if r1 = ((-1)) then (some (r1, Y3)) else (bd1 (X10_advance Y3) <| fun Y7 => some (r1, Y7))
noncomputable def X6_readCommand_b108 (g1 : Nat) (Y : Mem) (s0 : Int32) (s1 : Int32) : Option (Mem) :=
  gd (inb s1 30) <| lt_ (up Y 8 0 3 (ix s1) s0) <| fun Y22 => bd1 (X10_expectSemicolon Y22) <| fun Y26 => lt_ (up Y26 8 0 0 4 ((Y26 8 0 0 4) + 1)) <| fun Y27 => some Y27
noncomputable def X6_readCommand_b77 (g1 : Nat) (Y : Mem) (l2 : Nat) (s0 : Int32) (s1 : Int32) : Option (Mem) :=
  gd (inb s1 30) <| lt_ (up Y 8 0 2 (ix s1) s0) <| fun Y17 => gd (decide (l2 < 8)) <| if ((sCmd l2).2) = 0 then (X6_readCommand_b108 g1 Y17 0 (Y17 8 0 0 4)) else (bd2 (X10_expectNumber Y17 0 999) <| fun r29 Y31 => X6_readCommand_b108 g1 Y31 r29 (Y17 8 0 0 4))
noncomputable def X6_readCommand (Y : Mem) (g1 : Nat) : Option (Mem) :=
  bd1 (X6_findCommand Y) <| fun r1 => oq r1 (bd1 (X10_fail Y 1) <| fun Y6 => some Y6) <| fun v3 => if (Y 8 0 0 4) < 30 then (bd1 (X10_advance Y) <| fun Y10 => gd (decide (v3 < 8)) <| gd (inb (Y10 8 0 0 4) 30) <| lt_ (up Y10 8 0 1 (ix (Y10 8 0 0 4)) (Int32.ofNat (v3 + 1))) <| fun Y13 => if ((sCmd v3).1) = 0 then (X6_readCommand_b77 g1 Y13 v3 ((-1)) (Y13 8 0 0 4)) else (bd2 (X6_readStepName Y13 g1) <| fun r32 Y34 => X6_readCommand_b77 g1 Y34 v3 r32 (Y13 8 0 0 4))) else (bd1 (X10_fail Y 5) <| fun Y37 => some Y37)
noncomputable def X6_read_b14 (g1 : Nat) : Nat → Mem → Int32 → Option (Mem)
  | 0, _, _ => none
  | n+1, Y, l2 =>
  if 30 < l2 then (some Y) else (bd1 (X10_mayGoOn Y) <| fun r7 => if r7 = 0 then (some Y) else (bd1 (X6_readCommand Y g1) <| fun Y12 => X6_read_b14 g1 n Y12 (l2 + 1)))
noncomputable def X6_read (Y : Mem) (g1 : Nat) : Option (Mem) :=
  lt_ (up Y 8 0 0 4 0) <| fun Y1 => bd1 (X10_begin Y1) <| fun Y5 => X6_read_b14 g1 FU Y5 0
noncomputable def T11_runScript_b45  : Nat → Mem → Int32 → Option ((Nat × Mem) ⊕ (Int32 × Mem))
  | 0, _, _ => none
  | n+1, Y, l1 =>
  if (Y 8 0 0 4) ≤ l1 then (some (.inr (Y 8 0 0 4, Y))) else (gd (inb l1 30) <| gd (decide (¬ Y 8 0 1 (ix l1) = 0)) <| lt_ ((Y 8 0 1 (ix l1)).toNatClampNeg - 1) <| fun v20 => lt_ (Y 8 0 2 (ix l1)) <| fun v22 => lt_ (Y 8 0 3 (ix l1)) <| fun v24 => bd1 (X11_isAllowed Y v20 v22 v24) <| fun r26 => if r26 = 0 then (some (.inr (l1, Y))) else (bd1 (X11_carryOut Y v20 v22 v24) <| fun Y31 => T11_runScript_b45 n Y31 (l1 + 1)))
noncomputable def T11_runScript (Y : Mem) : Option ((Nat × Mem) ⊕ (Int32 × Mem)) :=
  gd (decide ((Y 1 0 0 0).toNatClampNeg < 2)) <| gd (decide (((Y 1 0 0 0).toNatClampNeg) < 2)) <| bd1 (X6_read Y (2*((Y 1 0 0 0).toNatClampNeg)+1)) <| fun Y5 => lt_ (up Y5 5 0 0 1 0) <| fun Y6 => bdxv (T11_requireNoError Y6) <| fun Y11 => bd1 (X2_push Y11 0) <| fun Y16 => T11_runScript_b45 FU Y16 0
noncomputable def X11_saltNeeded (Y : Mem) : Option (Int32) :=
  gd (decide ((Y 1 0 0 0).toNatClampNeg < 2)) <| gd (decide (((Y 1 0 0 0).toNatClampNeg) < 2)) <| bd1 (X11_sum Y 3 (((Y 1 0 0 0).toNatClampNeg)) 4 14 (Y 4 (2*((Y 1 0 0 0).toNatClampNeg)+1) 0 2)) <| fun r3 => lt_ (r3 + (Y 2 0 0 2)) <| fun v5 => if (Y 3 ((Y 1 0 0 0).toNatClampNeg) 0 2) ≤ v5 then (if v5 ≤ (Y 3 ((Y 1 0 0 0).toNatClampNeg) 0 3) then (some 0) else (some ((Y 3 ((Y 1 0 0 0).toNatClampNeg) 0 3) - v5))) else (some ((Y 3 ((Y 1 0 0 0).toNatClampNeg) 0 2) - v5))
noncomputable def T11_save (Y : Mem) (a1 : Int32) : Option ((Nat × Mem) ⊕ (Int32 × Mem)) :=
  bdxv (T11_requireSlot Y a1) <| fun Y4 => gd (inb a1 2) <| bd1 (X8_copyFrom Y4 (8+ix (a1)) 0) <| fun Y10 => lt_ (up Y10 0 0 2 (ix a1) (vp_nar .boolean 1)) <| fun Y11 => some (.inr (Y11 2 0 0 1, Y11))
noncomputable def T11_serve (Y : Mem) : Option ((Nat × Mem) ⊕ (Int32 × Mem)) :=
  bd1 (X3_servingObstacle Y 0) <| fun r1 => if r1 = 0 then (bd1 (X2_push Y 0) <| fun Y6 => lt_ (up Y6 2 0 0 5 1) <| fun Y7 => bd1 (X3_dishTaste Y7 0) <| fun r9 => some (.inr (r9, Y7))) else (some (.inl (1, Y)))
noncomputable def T11_setCooks (Y : Mem) (a1 : Int32) : Option ((Nat × Mem) ⊕ (Int32 × Mem)) :=
  bdxv (T11_requireCooks Y a1) <| fun Y4 => bd1 (X2_push Y4 0) <| fun Y9 => lt_ (Y9 2 0 0 0) <| fun v10 => lt_ (up Y9 2 0 0 0 a1) <| fun Y12 => some (.inr (v10, Y12))
noncomputable def T11_setDuration (Y : Mem) (a1 : Int32) (a2 : Int32) : Option ((Nat × Mem) ⊕ (Int32 × Mem)) :=
  bdxv (T11_requireStep Y a1) <| fun Y4 => bd1 (X11_isDuration Y4 a2) <| fun r7 => if r7 = 0 then (some (.inl (2, Y4))) else (bd1 (X2_push Y4 0) <| fun Y12 => gd (inb a1 14) <| lt_ (Y12 2 0 1 (ix a1)) <| fun v14 => lt_ (up Y12 2 0 1 (ix a1) a2) <| fun Y16 => some (.inr (v14, Y16)))
noncomputable def X3_spareMinutes_b76 (g0 : Nat) (a1 : Int32) (k20 : Mem → Int32 → Int32 → Option (Int32 × Mem)) (Y : Mem) (l3 : Int32) (l2 : Int32) : Option (Int32 × Mem) :=
  k20 Y (l3 + 1) l2
noncomputable def X3_spareMinutes_b20 (g0 : Nat) (a1 : Int32) (k6 : Mem → Int32 → Option (Int32 × Mem)) : Nat → Mem → Int32 → Int32 → Option (Int32 × Mem)
  | 0, _, _, _ => none
  | n+1, Y, l3, l2 =>
  if l2 ≤ l3 then (k6 Y (l2 + 1)) else (gd (decide ((Y 1 g0 0 0).toNatClampNeg < 2)) <| gd (inb l2 14) <| bd1 (X11_contains Y (Y 3 (((Y 1 g0 0 0).toNatClampNeg)) 8 (ix l2)) l3) <| fun r14 => if r14 = 0 then (X3_spareMinutes_b76 g0 a1 (X3_spareMinutes_b20 g0 a1 k6 n) Y l3 l2) else (gd (inb l3 14) <| lt_ ((Y 1 g0 3 (ix l3)) + (Y 2 g0 1 (ix l3))) <| fun v18 => lt_ (up Y 1 g0 3 (ix l2) ((if (Y 1 g0 3 (ix l2)) < v18 then v18 else (Y 1 g0 3 (ix l2))))) <| fun Y20 => X3_spareMinutes_b76 g0 a1 (X3_spareMinutes_b20 g0 a1 k6 n) Y20 l3 l2))
noncomputable def X3_spareMinutes_b6 (g0 : Nat) (a1 : Int32) : Nat → Mem → Int32 → Option (Int32 × Mem)
  | 0, _, _ => none
  | n+1, Y, l2 =>
  if a1 < l2 then (gd (inb 0 14) <| gd (inb (Y 1 g0 2 (ix 0)) 14) <| gd (inb a1 14) <| some (((Y 1 g0 1 (ix (Y 1 g0 2 (ix 0)))) - (Y 1 g0 1 (ix a1))) - (Y 1 g0 3 (ix a1)), Y)) else (gd (inb l2 14) <| lt_ (up Y 1 g0 3 (ix l2) 0) <| fun Y9 => X3_spareMinutes_b20 g0 a1 (X3_spareMinutes_b6 g0 a1 n) FU Y9 0 l2)
noncomputable def X3_spareMinutes (Y : Mem) (g0 : Nat) (a1 : Int32) : Option (Int32 × Mem) :=
  bd1 (X3_rank Y g0) <| fun Y3 => X3_spareMinutes_b6 g0 a1 FU Y3 0
noncomputable def T11_slack (Y : Mem) (a1 : Int32) : Option ((Nat × Mem) ⊕ (Int32 × Mem)) :=
  bdxv (T11_requireStep Y a1) <| fun Y4 => bd2 (X3_spareMinutes Y4 0 a1) <| fun r7 Y9 => some (.inr (r7, Y9))
noncomputable def T11_startsOf (Y : Mem) (a1 : Int32) : Option ((Nat × Mem) ⊕ (Int32 × Mem)) :=
  bdxv (T11_requireStep Y a1) <| fun Y4 => gd (inb a1 14) <| some (.inr (Y4 2 0 4 (ix a1), Y4))
noncomputable def T11_status (Y : Mem) (a1 : Int32) : Option ((Nat × Mem) ⊕ (Int32 × Mem)) :=
  bdxv (T11_requireStep Y a1) <| fun Y4 => bd1 (X8_statusOf Y4 0 a1) <| fun r7 => some (.inr (r7, Y4))
noncomputable def T11_statusAfter (Y : Mem) (a1 : Int32) (a2 : Int32) : Option ((Nat × Mem) ⊕ (Int32 × Mem)) :=
  bdxv (T11_requireStep Y a1) <| fun Y4 => bd1 (X11_isWithin Y4 a2 0 500) <| fun r7 => if r7 = 0 then (some (.inl (2, Y4))) else (bd1 (X3_copyFrom Y4 1 0) <| fun Y12 => bd2 (X3_runMinutes Y12 1 a2) <| fun r13 Y15 => bd1 (X8_statusOf Y15 1 a1) <| fun r16 => some (.inr (r16, Y15)))
noncomputable def T11_stepTaste (Y : Mem) (a1 : Int32) : Option ((Nat × Mem) ⊕ (Int32 × Mem)) :=
  bdxv (T11_requireStep Y a1) <| fun Y4 => gd (decide ((Y4 1 0 0 0).toNatClampNeg < 2)) <| gd (inb a1 14) <| some (.inr (Y4 3 (((Y4 1 0 0 0).toNatClampNeg)) 4 (ix a1), Y4))
noncomputable def T11_stop (Y : Mem) (a1 : Int32) : Option ((Nat × Mem) ⊕ (Int32 × Mem)) :=
  bdxv (T11_requireStep Y a1) <| fun Y4 => bd1 (X11_contains Y4 (Y4 2 0 0 6) a1) <| fun r7 => if r7 = 0 then (some (.inl (1, Y4))) else (bd1 (X2_push Y4 0) <| fun Y12 => bd2 (X8_halt Y12 0 a1) <| fun r13 Y15 => some (.inr (r13, Y15)))
noncomputable def T11_successorCount (Y : Mem) (a1 : Int32) : Option ((Nat × Mem) ⊕ (Int32 × Mem)) :=
  bdxv (T11_requireStep Y a1) <| fun Y4 => gd (decide ((Y4 1 0 0 0).toNatClampNeg < 2)) <| gd (inb a1 14) <| bd1 (J6_bitCount_0f7a4 Y4 (Y4 3 (((Y4 1 0 0 0).toNatClampNeg)) 9 (ix a1))) <| fun r9 => some (.inr (r9, Y4))
noncomputable def T11_truncate (Y : Mem) (a1 : Int32) : Option ((Nat × Mem) ⊕ (Int32 × Mem)) :=
  bd1 (X11_isWithin Y a1 0 (Y 5 0 0 1)) <| fun r1 => if r1 = 0 then (some (.inl (2, Y))) else (lt_ (up Y 5 0 0 1 a1) <| fun Y4 => some (.inr (a1, Y4)))
noncomputable def X2_popInto (Y : Mem) (g1 : Nat) : Option (Mem) :=
  lt_ (up Y 9 0 0 1 ((((Y 9 0 0 1) + 6) - 1) - (((Y 9 0 0 1) + 6) - 1) / 6 * 6)) <| fun Y1 => gd (inb (Y1 9 0 0 1) 6) <| bd1 (X8_copyFrom Y1 g1 (2+ix (Y1 9 0 0 1))) <| fun Y6 => lt_ (up Y6 9 0 0 2 ((Y6 9 0 0 2) - 1)) <| fun Y7 => some Y7
noncomputable def T11_undo (Y : Mem) : Option ((Nat × Mem) ⊕ (Int32 × Mem)) :=
  if (Y 9 0 0 2) = 0 then (some (.inl (1, Y))) else (bd1 (X2_popInto Y 0) <| fun Y4 => some (.inr (Y4 9 0 0 2, Y4)))
noncomputable def T11_whyNotRunning (Y : Mem) (a1 : Int32) : Option ((Nat × Mem) ⊕ (Int32 × Mem)) :=
  bdxv (T11_requireStep Y a1) <| fun Y4 => bd1 (X3_obstacle Y4 0 a1) <| fun r7 => some (.inr (r7, Y4))
noncomputable def X9_addTwoDigits_b17 (g0 : Nat) (a1 : Int32) (Y : Mem) : Option (Mem) :=
  bd1 (X9_addByte Y g0 (48 + (a1 - a1 / 10 * 10))) <| fun Y4 => some Y4
noncomputable def X9_addTwoDigits (Y : Mem) (g0 : Nat) (a1 : Int32) : Option (Mem) :=
  if a1 < 10 then (X9_addTwoDigits_b17 g0 a1 Y) else (bd1 (X9_addByte Y g0 (48 + (a1 / 10))) <| fun Y7 => X9_addTwoDigits_b17 g0 a1 Y7)
noncomputable def X11_writeProgress (Y : Mem) (a1 : Int32) : Option (Mem) :=
  bd1 (X8_statusOf Y 0 a1) <| fun r1 => if r1 = 0 then (bd1 (X9_addByte Y 1 46) <| fun Y6 => some Y6) else (if r1 = 1 then (gd (inb a1 14) <| bd1 (X9_addTwoDigits Y 1 (Y 2 0 2 (ix a1))) <| fun Y11 => some Y11) else (if r1 = 2 then (bd1 (X9_addByte Y 1 61) <| fun Y15 => some Y15) else (bd1 (X9_addByte Y 1 42) <| fun Y18 => some Y18)))
noncomputable def X4_copyTo_b2 (g0 : Nat) (g1 : Nat) (a2 : Int32) : Nat → Mem → Int32 → Option (Mem)
  | 0, _, _ => none
  | n+1, Y, l3 =>
  gd (inb a2 (ncap (g0))) <| if (Y 4 g0 2 (ix a2)) ≤ l3 then (some Y) else (gd (inb l3 6) <| bd1 (X9_addByte Y g1 (Y 4 g0 (10+ix a2) (ix l3))) <| fun Y6 => X4_copyTo_b2 g0 g1 a2 n Y6 (l3 + 1))
noncomputable def X4_copyTo (Y : Mem) (g0 : Nat) (g1 : Nat) (a2 : Int32) : Option (Mem) :=
  X4_copyTo_b2 g0 g1 a2 FU Y 0
noncomputable def X11_writeSummary_b40  (k10 : Mem → Int32 → Option (Int32 × Mem)) (Y : Mem) (l1 : Int32) : Option (Int32 × Mem) :=
  gd (decide ((Y 1 0 0 0).toNatClampNeg < 2)) <| gd (decide (((Y 1 0 0 0).toNatClampNeg) < 2)) <| bd1 (X4_copyTo Y (2*((Y 1 0 0 0).toNatClampNeg)+1) 1 l1) <| fun Y11 => bd1 (X11_writeProgress Y11 l1) <| fun Y14 => k10 Y14 (l1 + 1)
noncomputable def X11_writeSummary_b10  : Nat → Mem → Int32 → Option (Int32 × Mem)
  | 0, _, _ => none
  | n+1, Y, l1 =>
  gd (decide ((Y 1 0 0 0).toNatClampNeg < 2)) <| gd (decide (((Y 1 0 0 0).toNatClampNeg) < 2)) <| if (Y 4 (2*((Y 1 0 0 0).toNatClampNeg)+1) 0 2) ≤ l1 then (some (Y 5 1 0 1, Y)) else (if l1 ≤ 0 then (X11_writeSummary_b40 (X11_writeSummary_b10 n) Y l1) else (bd1 (X9_addByte Y 1 32) <| fun Y17 => X11_writeSummary_b40 (X11_writeSummary_b10 n) Y17 l1))
noncomputable def X11_writeSummary (Y : Mem) : Option (Int32 × Mem) :=
  lt_ (up Y 5 1 0 1 0) <| fun Y1 => X11_writeSummary_b10 FU Y1 0
