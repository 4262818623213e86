/-! PHASE 3: THE REFERENCE DOES NOT LOOK AT THE LAW'S OWN CELL -/
section
variable {v : Mem}
set_option maxHeartbeats 1000000 in
theorem k_X12_fewestCooks (Y : Mem) : M12_fewestCooks (sv v Y) = Option.map (sw v) (M12_fewestCooks Y) := by
  simp only [M12_fewestCooks, k_X12_finishWith, k_X12_fewestCooks_b13, sv_rd, sv_up, lt_sv, map_bd1, map_bd2, map_gd, map_lt, map_ite, map_sm, bd1_map, bd2_map, sw_mk]
set_option maxHeartbeats 1000000 in
theorem k_X12_isNamed_b15 (Y : Mem) (a1 : Int32) (a2 : Int32) (a3 : Int32) : ∀ (n : Nat) (e1 : Int32), M12_isNamed_b15 (sv v Y) a1 a2 a3 n e1 = (M12_isNamed_b15 Y a1 a2 a3 n e1) := by
  intro n
  induction n with
  | zero => intros; rfl
  | succ n ih =>
    intro e1
    simp only [M12_isNamed_b15, ih, sv_rd, sv_up, lt_sv, map_bd1, map_bd2, map_gd, map_lt, map_ite, map_sm, bd1_map, bd2_map, sw_mk]
set_option maxHeartbeats 1000000 in
theorem k_X12_isNamed (Y : Mem) (a1 : Int32) (a2 : Int32) (a3 : Int32) : M12_isNamed (sv v Y) a1 a2 a3 = (M12_isNamed Y a1 a2 a3) := by
  simp only [M12_isNamed, k_X12_isNamed_b15, sv_rd, sv_up, lt_sv, map_bd1, map_bd2, map_gd, map_lt, map_ite, map_sm, bd1_map, bd2_map, sw_mk]
set_option maxHeartbeats 1000000 in
theorem k_X12_stepNamed_b2 (Y : Mem) (a1 : Int32) (a2 : Int32) : ∀ (n : Nat) (e1 : Int32), M12_stepNamed_b2 (sv v Y) a1 a2 n e1 = (M12_stepNamed_b2 Y a1 a2 n e1) := by
  intro n
  induction n with
  | zero => intros; rfl
  | succ n ih =>
    intro e1
    simp only [M12_stepNamed_b2, k_X12_isNamed, ih, sv_rd, sv_up, lt_sv, map_bd1, map_bd2, map_gd, map_lt, map_ite, map_sm, bd1_map, bd2_map, sw_mk]
set_option maxHeartbeats 1000000 in
theorem k_X12_stepNamed (Y : Mem) (a1 : Int32) (a2 : Int32) : M12_stepNamed (sv v Y) a1 a2 = (M12_stepNamed Y a1 a2) := by
  simp only [M12_stepNamed, k_X12_stepNamed_b2, sv_rd, sv_up, lt_sv, map_bd1, map_bd2, map_gd, map_lt, map_ite, map_sm, bd1_map, bd2_map, sw_mk]
set_option maxHeartbeats 1000000 in
theorem k_X12_findStep_b21 (Y : Mem) (l1 : Int32) (s0 : Int32) : M12_findStep_b21 (sv v Y) l1 s0 = Option.map (sw v) (M12_findStep_b21 Y l1 s0) := by
  simp only [M12_findStep_b21, k_X12_fails, sv_rd, sv_up, lt_sv, map_bd1, map_bd2, map_gd, map_lt, map_ite, map_sm, bd1_map, bd2_map, sw_mk]
set_option maxHeartbeats 1000000 in
theorem k_X12_findStep (Y : Mem) : M12_findStep (sv v Y) = Option.map (sw v) (M12_findStep Y) := by
  simp only [M12_findStep, k_X12_stepNamed, k_X12_findStep_b21, sv_rd, sv_up, lt_sv, map_bd1, map_bd2, map_gd, map_lt, map_ite, map_sm, bd1_map, bd2_map, sw_mk]
set_option maxHeartbeats 1000000 in
theorem k_X12_inconsistencies_b121 {k37 k37_ : Mem → Int32 → Int32 → Option (Int32 × Mem)} (hk37 : ∀ (x0 : Mem) (x1 : Int32) (x2 : Int32), k37_ (sv v x0) x1 x2 = Option.map (sw v) (k37 x0 x1 x2)) (Y : Mem) (l2 : Int32) (s0 : Int32) (s1 : Int32) : M12_inconsistencies_b121 k37_ (sv v Y) l2 s0 s1 = Option.map (sw v) (M12_inconsistencies_b121 k37 Y l2 s0 s1) := by
  simp only [M12_inconsistencies_b121, hk37, sv_rd, sv_up, lt_sv, map_bd1, map_bd2, map_gd, map_lt, map_ite, map_sm, bd1_map, bd2_map, sw_mk]
set_option maxHeartbeats 1000000 in
theorem k_X12_inconsistencies_b120 {k37 k37_ : Mem → Int32 → Int32 → Option (Int32 × Mem)} (hk37 : ∀ (x0 : Mem) (x1 : Int32) (x2 : Int32), k37_ (sv v x0) x1 x2 = Option.map (sw v) (k37 x0 x1 x2)) (Y : Mem) (l2 : Int32) (s0 : Int32) : M12_inconsistencies_b120 k37_ (sv v Y) l2 s0 = Option.map (sw v) (M12_inconsistencies_b120 k37 Y l2 s0) := by
  simp only [M12_inconsistencies_b120, hk37, k_X12_inconsistencies_b121 hk37, sv_rd, sv_up, lt_sv, map_bd1, map_bd2, map_gd, map_lt, map_ite, map_sm, bd1_map, bd2_map, sw_mk]
set_option maxHeartbeats 1000000 in
theorem k_X12_inconsistencies_b93 {k53 k53_ : Mem → Int32 → Int32 → Int32 → Int32 → Option (Int32 × Mem)} (hk53 : ∀ (x0 : Mem) (x1 : Int32) (x2 : Int32) (x3 : Int32) (x4 : Int32), k53_ (sv v x0) x1 x2 x3 x4 = Option.map (sw v) (k53 x0 x1 x2 x3 x4)) (Y : Mem) (l4 : Int32) (l2 : Int32) (l1 : Int32) (s0 : Int32) : M12_inconsistencies_b93 k53_ (sv v Y) l4 l2 l1 s0 = Option.map (sw v) (M12_inconsistencies_b93 k53 Y l4 l2 l1 s0) := by
  simp only [M12_inconsistencies_b93, hk53, sv_rd, sv_up, lt_sv, map_bd1, map_bd2, map_gd, map_lt, map_ite, map_sm, bd1_map, bd2_map, sw_mk]
set_option maxHeartbeats 1000000 in
theorem k_X12_inconsistencies_b88 {k53 k53_ : Mem → Int32 → Int32 → Int32 → Int32 → Option (Int32 × Mem)} (hk53 : ∀ (x0 : Mem) (x1 : Int32) (x2 : Int32) (x3 : Int32) (x4 : Int32), k53_ (sv v x0) x1 x2 x3 x4 = Option.map (sw v) (k53 x0 x1 x2 x3 x4)) (Y : Mem) (l4 : Int32) (l2 : Int32) (l1 : Int32) : M12_inconsistencies_b88 k53_ (sv v Y) l4 l2 l1 = Option.map (sw v) (M12_inconsistencies_b88 k53 Y l4 l2 l1) := by
  simp only [M12_inconsistencies_b88, hk53, k_X12_inconsistencies_b93 hk53, sv_rd, sv_up, lt_sv, map_bd1, map_bd2, map_gd, map_lt, map_ite, map_sm, bd1_map, bd2_map, sw_mk]
set_option maxHeartbeats 1000000 in
theorem k_X12_inconsistencies_b53 {k37 k37_ : Mem → Int32 → Int32 → Option (Int32 × Mem)} (hk37 : ∀ (x0 : Mem) (x1 : Int32) (x2 : Int32), k37_ (sv v x0) x1 x2 = Option.map (sw v) (k37 x0 x1 x2)) : ∀ (n : Nat) (e1 : Mem) (e2 : Int32) (e3 : Int32) (e4 : Int32) (e5 : Int32), M12_inconsistencies_b53 k37_ n (sv v e1) e2 e3 e4 e5 = Option.map (sw v) (M12_inconsistencies_b53 k37 n e1 e2 e3 e4 e5) := by
  intro n
  induction n with
  | zero => intros; rfl
  | succ n ih =>
    intro e1 e2 e3 e4 e5
    simp only [M12_inconsistencies_b53, k_X12_of, hk37, k_X12_inconsistencies_b120 hk37, k_X12_inconsistencies_b121 hk37, k_X12_inconsistencies_b88 ih, k_X12_inconsistencies_b93 ih, ih, sv_rd, sv_up, lt_sv, map_bd1, map_bd2, map_gd, map_lt, map_ite, map_sm, bd1_map, bd2_map, sw_mk]
set_option maxHeartbeats 1000000 in
theorem k_X12_inconsistencies_b37  : ∀ (n : Nat) (e1 : Mem) (e2 : Int32) (e3 : Int32), M12_inconsistencies_b37 n (sv v e1) e2 e3 = Option.map (sw v) (M12_inconsistencies_b37 n e1 e2 e3) := by
  intro n
  induction n with
  | zero => intros; rfl
  | succ n ih =>
    intro e1 e2 e3
    simp only [M12_inconsistencies_b37, k_X12_inconsistencies_b53 ih, ih, sv_rd, sv_up, lt_sv, map_bd1, map_bd2, map_gd, map_lt, map_ite, map_sm, bd1_map, bd2_map, sw_mk]
set_option maxHeartbeats 1000000 in
theorem k_X12_inconsistencies (Y : Mem) : M12_inconsistencies (sv v Y) = Option.map (sw v) (M12_inconsistencies Y) := by
  simp only [M12_inconsistencies, k_X12_withStatus, k_X12_inconsistencies_b37, sv_rd, sv_up, lt_sv, map_bd1, map_bd2, map_gd, map_lt, map_ite, map_sm, bd1_map, bd2_map, sw_mk]
set_option maxHeartbeats 1000000 in
theorem k_X12_isHot (Y : Mem) (a1 : Int32) : M12_isHot (sv v Y) a1 = Option.map (sw v) (M12_isHot Y a1) := by
  simp only [M12_isHot, k_X12_field, sv_rd, sv_up, lt_sv, map_bd1, map_bd2, map_gd, map_lt, map_ite, map_sm, bd1_map, bd2_map, sw_mk]
set_option maxHeartbeats 1000000 in
theorem k_X12_isPan (Y : Mem) (a1 : Int32) : M12_isPan (sv v Y) a1 = (M12_isPan Y a1) := by
  simp only [M12_isPan, k_X12_in, sv_rd, sv_up, lt_sv, map_bd1, map_bd2, map_gd, map_lt, map_ite, map_sm, bd1_map, bd2_map, sw_mk]
set_option maxHeartbeats 1000000 in
theorem k_X12_wrong (Y : Mem) (a1 : Int32) : M12_wrong (sv v Y) a1 = Option.map (sw v) (M12_wrong Y a1) := by
  simp only [M12_wrong, sv_rd, sv_up, lt_sv, map_bd1, map_bd2, map_gd, map_lt, map_ite, map_sm, bd1_map, bd2_map, sw_mk]
set_option maxHeartbeats 1000000 in
theorem k_X12_isShortWord_b36 (Y : Mem) : M12_isShortWord_b36 (sv v Y) = Option.map (sw v) (M12_isShortWord_b36 Y) := by
  simp only [M12_isShortWord_b36, sv_rd, sv_up, lt_sv, map_bd1, map_bd2, map_gd, map_lt, map_ite, map_sm, bd1_map, bd2_map, sw_mk]
set_option maxHeartbeats 1000000 in
theorem k_X12_isShortWord (Y : Mem) : M12_isShortWord (sv v Y) = Option.map (sw v) (M12_isShortWord Y) := by
  simp only [M12_isShortWord, k_X12_isShortWord_b36, k_X12_wrong, sv_rd, sv_up, lt_sv, map_bd1, map_bd2, map_gd, map_lt, map_ite, map_sm, bd1_map, bd2_map, sw_mk]
set_option maxHeartbeats 1000000 in
theorem k_X12_isTakenUp_b14 (a1 : Int32) (Y : Mem) (s0 : Int32) : M12_isTakenUp_b14 a1 (sv v Y) s0 = Option.map (sw v) (M12_isTakenUp_b14 a1 Y s0) := by
  simp only [M12_isTakenUp_b14, k_X12_fails, k_X12_isTaken, sv_rd, sv_up, lt_sv, map_bd1, map_bd2, map_gd, map_lt, map_ite, map_sm, bd1_map, bd2_map, sw_mk]
set_option maxHeartbeats 1000000 in
theorem k_X12_isTakenUp (Y : Mem) (a1 : Int32) : M12_isTakenUp (sv v Y) a1 = Option.map (sw v) (M12_isTakenUp Y a1) := by
  simp only [M12_isTakenUp, k_X12_isStep, k_X12_isTakenUp_b14, sv_rd, sv_up, lt_sv, map_bd1, map_bd2, map_gd, map_lt, map_ite, map_sm, bd1_map, bd2_map, sw_mk]
set_option maxHeartbeats 1000000 in
theorem k_X12_isUnattended (Y : Mem) (a1 : Int32) : M12_isUnattended (sv v Y) a1 = Option.map (sw v) (M12_isUnattended Y a1) := by
  simp only [M12_isUnattended, k_X12_field, sv_rd, sv_up, lt_sv, map_bd1, map_bd2, map_gd, map_lt, map_ite, map_sm, bd1_map, bd2_map, sw_mk]
set_option maxHeartbeats 1000000 in
theorem k_X12_parseRanged (Y : Mem) (a1 : Int32) (a2 : Int32) (a3 : Int32) : M12_parseRanged (sv v Y) a1 a2 a3 = Option.map (sw v) (M12_parseRanged Y a1 a2 a3) := by
  simp only [M12_parseRanged, k_X12_in, k_X12_wrong, k_X12_token, sv_rd, sv_up, lt_sv, map_bd1, map_bd2, map_gd, map_lt, map_ite, map_sm, bd1_map, bd2_map, sw_mk]
set_option maxHeartbeats 1000000 in
theorem k_X12_semicolon (Y : Mem) : M12_semicolon (sv v Y) = Option.map (sw v) (M12_semicolon Y) := by
  simp only [M12_semicolon, k_X12_token, k_X12_wrong, sv_rd, sv_up, lt_sv, map_bd1, map_bd2, map_gd, map_lt, map_ite, map_sm, bd1_map, bd2_map, sw_mk]
set_option maxHeartbeats 1000000 in
theorem k_X12_panNamed_b2 (Y : Mem) (a1 : Int32) (a2 : Int32) : ∀ (n : Nat) (e1 : Int32), M12_panNamed_b2 (sv v Y) a1 a2 n e1 = (M12_panNamed_b2 Y a1 a2 n e1) := by
  intro n
  induction n with
  | zero => intros; rfl
  | succ n ih =>
    intro e1
    simp only [M12_panNamed_b2, k_X12_isNamed, ih, sv_rd, sv_up, lt_sv, map_bd1, map_bd2, map_gd, map_lt, map_ite, map_sm, bd1_map, bd2_map, sw_mk]
set_option maxHeartbeats 1000000 in
theorem k_X12_panNamed (Y : Mem) (a1 : Int32) (a2 : Int32) : M12_panNamed (sv v Y) a1 a2 = (M12_panNamed Y a1 a2) := by
  simp only [M12_panNamed, k_X12_panNamed_b2, sv_rd, sv_up, lt_sv, map_bd1, map_bd2, map_gd, map_lt, map_ite, map_sm, bd1_map, bd2_map, sw_mk]
set_option maxHeartbeats 1000000 in
theorem k_X12_putName_b20 (a1 : Int32) : ∀ (n : Nat) (e1 : Mem) (e2 : Int32), M12_putName_b20 a1 n (sv v e1) e2 = Option.map (sv v) (M12_putName_b20 a1 n e1 e2) := by
  intro n
  induction n with
  | zero => intros; rfl
  | succ n ih =>
    intro e1 e2
    simp only [M12_putName_b20, k_X12_token, ih, sv_rd, sv_up, lt_sv, map_bd1, map_bd2, map_gd, map_lt, map_ite, map_sm, bd1_map, bd2_map, sw_mk]
set_option maxHeartbeats 1000000 in
theorem k_X12_putName (Y : Mem) (a1 : Int32) : M12_putName (sv v Y) a1 = Option.map (sv v) (M12_putName Y a1) := by
  simp only [M12_putName, k_X12_putName_b20, sv_rd, sv_up, lt_sv, map_bd1, map_bd2, map_gd, map_lt, map_ite, map_sm, bd1_map, bd2_map, sw_mk]
set_option maxHeartbeats 1000000 in
theorem k_X12_parsePan (Y : Mem) : M12_parsePan (sv v Y) = Option.map (sw v) (M12_parsePan Y) := by
  simp only [M12_parsePan, k_X12_wrong, k_X12_token, k_X12_isShortWord, k_X12_panNamed, k_X12_putName, k_X12_parseRanged, k_X12_semicolon, sv_rd, sv_up, lt_sv, map_bd1, map_bd2, map_gd, map_lt, map_ite, map_sm, bd1_map, bd2_map, sw_mk]
set_option maxHeartbeats 1000000 in
theorem k_X12_takes (Y : Mem) (w1 : Nat) : M12_takes (sv v Y) w1 = Option.map (sw v) (M12_takes Y w1) := by
  simp only [M12_takes, k_X12_isWord, k_X12_token, sv_rd, sv_up, lt_sv, map_bd1, map_bd2, map_gd, map_lt, map_ite, map_sm, bd1_map, bd2_map, sw_mk]
end
