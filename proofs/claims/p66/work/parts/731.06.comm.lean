/-! PHASE 3: THE REFERENCE DOES NOT LOOK AT THE LAW'S OWN CELL -/
section
variable {v : Mem}
set_option maxHeartbeats 1000000 in
theorem k_X12_parsePanType (Y : Mem) (a1 : Int32) : M12_parsePanType (sv v Y) a1 = Option.map (sw v) (M12_parsePanType Y a1) := by
  simp only [M12_parsePanType, k_X12_takes, k_X12_isShortWord, k_X12_panNamed, k_X12_wrong, k_X12_token, sv_rd, sv_up, lt_sv, map_bd1, map_bd2, map_gd, map_lt, map_ite, map_sm, bd1_map, bd2_map, sw_mk]
set_option maxHeartbeats 1000000 in
theorem k_X12_parsePredecessor_b40 (a1 : Int32) : ∀ (n : Nat) (e1 : Mem) (e2 : Int32) (e3 : Int32), M12_parsePredecessor_b40 a1 n (sv v e1) e2 e3 = Option.map (sw v) (M12_parsePredecessor_b40 a1 n e1 e2 e3) := by
  intro n
  induction n with
  | zero => intros; rfl
  | succ n ih =>
    intro e1 e2 e3
    simp only [M12_parsePredecessor_b40, k_X12_wrong, k_X12_token, ih, sv_rd, sv_up, lt_sv, map_bd1, map_bd2, map_gd, map_lt, map_ite, map_sm, bd1_map, bd2_map, sw_mk]
set_option maxHeartbeats 1000000 in
theorem k_X12_parsePredecessor (Y : Mem) (a1 : Int32) : M12_parsePredecessor (sv v Y) a1 = Option.map (sw v) (M12_parsePredecessor Y a1) := by
  simp only [M12_parsePredecessor, k_X12_isShortWord, k_X12_stepNamed, k_X12_wrong, k_X12_parsePredecessor_b40, sv_rd, sv_up, lt_sv, map_bd1, map_bd2, map_gd, map_lt, map_ite, map_sm, bd1_map, bd2_map, sw_mk]
set_option maxHeartbeats 1000000 in
theorem k_X12_parseStep_b221 (Y : Mem) : M12_parseStep_b221 (sv v Y) = Option.map (sw v) (M12_parseStep_b221 Y) := by
  simp only [M12_parseStep_b221, k_X12_semicolon, sv_rd, sv_up, lt_sv, map_bd1, map_bd2, map_gd, map_lt, map_ite, map_sm, bd1_map, bd2_map, sw_mk]
set_option maxHeartbeats 1000000 in
theorem k_X12_parseStep_b203  : ∀ (n : Nat) (e1 : Mem) (e2 : Int32), M12_parseStep_b203 n (sv v e1) e2 = Option.map (sw v) (M12_parseStep_b203 n e1 e2) := by
  intro n
  induction n with
  | zero => intros; rfl
  | succ n ih =>
    intro e1 e2
    simp only [M12_parseStep_b203, k_X12_parsePredecessor, k_X12_parseStep_b221, ih, sv_rd, sv_up, lt_sv, map_bd1, map_bd2, map_gd, map_lt, map_ite, map_sm, bd1_map, bd2_map, sw_mk]
set_option maxHeartbeats 1000000 in
theorem k_X12_parseStep_b183 (Y : Mem) (l1 : Int32) (s0 : Int32) (s1 : Int32) : M12_parseStep_b183 (sv v Y) l1 s0 s1 = Option.map (sw v) (M12_parseStep_b183 Y l1 s0 s1) := by
  simp only [M12_parseStep_b183, k_X12_takes, k_X12_parseStep_b221, k_X12_parsePredecessor, k_X12_parseStep_b203, sv_rd, sv_up, lt_sv, map_bd1, map_bd2, map_gd, map_lt, map_ite, map_sm, bd1_map, bd2_map, sw_mk]
set_option maxHeartbeats 1000000 in
theorem k_X12_parseStep_b160 (Y : Mem) (l1 : Int32) (s0 : Int32) (s1 : Int32) : M12_parseStep_b160 (sv v Y) l1 s0 s1 = Option.map (sw v) (M12_parseStep_b160 Y l1 s0 s1) := by
  simp only [M12_parseStep_b160, k_X12_takes, k_X12_parseStep_b183, sv_rd, sv_up, lt_sv, map_bd1, map_bd2, map_gd, map_lt, map_ite, map_sm, bd1_map, bd2_map, sw_mk]
set_option maxHeartbeats 1000000 in
theorem k_X12_parseStep_b74  : ∀ (n : Nat) (e1 : Mem) (e2 : Int32) (e3 : Int32), M12_parseStep_b74 n (sv v e1) e2 e3 = Option.map (sw v) (M12_parseStep_b74 n e1 e2 e3) := by
  intro n
  induction n with
  | zero => intros; rfl
  | succ n ih =>
    intro e1 e2 e3
    simp only [M12_parseStep_b74, k_X12_putName, k_X12_parseRanged, k_X12_parsePanType, k_X12_takes, k_X12_parseStep_b160, ih, sv_rd, sv_up, lt_sv, map_bd1, map_bd2, map_gd, map_lt, map_ite, map_sm, bd1_map, bd2_map, sw_mk]
set_option maxHeartbeats 1000000 in
theorem k_X12_parseStep (Y : Mem) : M12_parseStep (sv v Y) = Option.map (sw v) (M12_parseStep Y) := by
  simp only [M12_parseStep, k_X12_wrong, k_X12_token, k_X12_isShortWord, k_X12_stepNamed, k_X12_parseStep_b74, sv_rd, sv_up, lt_sv, map_bd1, map_bd2, map_gd, map_lt, map_ite, map_sm, bd1_map, bd2_map, sw_mk]
set_option maxHeartbeats 1000000 in
theorem k_X12_parseSetup_b164 (Y : Mem) : M12_parseSetup_b164 (sv v Y) = Option.map (sw v) (M12_parseSetup_b164 Y) := by
  simp only [M12_parseSetup_b164, sv_rd, sv_up, lt_sv, map_bd1, map_bd2, map_gd, map_lt, map_ite, map_sm, bd1_map, bd2_map, sw_mk]
set_option maxHeartbeats 1000000 in
theorem k_X12_parseSetup_b131  : ∀ (n : Nat) (e1 : Mem), M12_parseSetup_b131 n (sv v e1) = Option.map (sw v) (M12_parseSetup_b131 n e1) := by
  intro n
  induction n with
  | zero => intros; rfl
  | succ n ih =>
    intro e1
    simp only [M12_parseSetup_b131, k_X12_isWord, k_X12_parseSetup_b164, k_X12_wrong, k_X12_parseStep, ih, sv_rd, sv_up, lt_sv, map_bd1, map_bd2, map_gd, map_lt, map_ite, map_sm, bd1_map, bd2_map, sw_mk]
set_option maxHeartbeats 1000000 in
theorem k_X12_parseSetup_b98  : ∀ (n : Nat) (e1 : Mem), M12_parseSetup_b98 n (sv v e1) = Option.map (sw v) (M12_parseSetup_b98 n e1) := by
  intro n
  induction n with
  | zero => intros; rfl
  | succ n ih =>
    intro e1
    simp only [M12_parseSetup_b98, k_X12_isWord, k_X12_wrong, k_X12_parseSetup_b131, k_X12_parsePan, ih, sv_rd, sv_up, lt_sv, map_bd1, map_bd2, map_gd, map_lt, map_ite, map_sm, bd1_map, bd2_map, sw_mk]
set_option maxHeartbeats 1000000 in
theorem k_X12_parseSetup_b2  : ∀ (n : Nat) (e1 : Mem) (e2 : Int32), M12_parseSetup_b2 n (sv v e1) e2 = Option.map (sw v) (M12_parseSetup_b2 n e1 e2) := by
  intro n
  induction n with
  | zero => intros; rfl
  | succ n ih =>
    intro e1 e2
    simp only [M12_parseSetup_b2, k_X12_isWord, k_X12_wrong, k_X12_token, k_X12_parseRanged, k_X12_semicolon, k_X12_parseSetup_b98, ih, sv_rd, sv_up, lt_sv, map_bd1, map_bd2, map_gd, map_lt, map_ite, map_sm, bd1_map, bd2_map, sw_mk]
set_option maxHeartbeats 1000000 in
theorem k_X12_parseSetup (Y : Mem) : M12_parseSetup (sv v Y) = Option.map (sw v) (M12_parseSetup Y) := by
  simp only [M12_parseSetup, k_X12_parseSetup_b2, sv_rd, sv_up, lt_sv, map_bd1, map_bd2, map_gd, map_lt, map_ite, map_sm, bd1_map, bd2_map, sw_mk]
set_option maxHeartbeats 1000000 in
theorem k_X12_load_b42 (Y : Mem) (s0 : Int32) : M12_load_b42 (sv v Y) s0 = Option.map (sw v) (M12_load_b42 Y s0) := by
  simp only [M12_load_b42, k_X12_fails, sv_rd, sv_up, lt_sv, map_bd1, map_bd2, map_gd, map_lt, map_ite, map_sm, bd1_map, bd2_map, sw_mk]
set_option maxHeartbeats 1000000 in
theorem k_X12_load_b32 (Y : Mem) (l1 : Int32) : M12_load_b32 (sv v Y) l1 = Option.map (sw v) (M12_load_b32 Y l1) := by
  simp only [M12_load_b32, k_X12_load_b42, sv_rd, sv_up, lt_sv, map_bd1, map_bd2, map_gd, map_lt, map_ite, map_sm, bd1_map, bd2_map, sw_mk]
set_option maxHeartbeats 1000000 in
theorem k_X12_load (Y : Mem) : M12_load (sv v Y) = Option.map (sw v) (M12_load Y) := by
  simp only [M12_load, k_X12_copyBlock, k_X12_begin, k_X12_parseSetup, k_X12_load_b32, sv_rd, sv_up, lt_sv, map_bd1, map_bd2, map_gd, map_lt, map_ite, map_sm, bd1_map, bd2_map, sw_mk]
set_option maxHeartbeats 1000000 in
theorem k_X12_longestPath_b35 {k4 k4_ : Int32 → Int32 → Option (Int32)} (hk4 : ∀ (x0 : Int32) (x1 : Int32), k4_ x0 x1 = (k4 x0 x1)) (Y : Mem) (l2 : Int32) (s0 : Int32) : M12_longestPath_b35 (sv v Y) k4_ l2 s0 = (M12_longestPath_b35 Y k4 l2 s0) := by
  simp only [M12_longestPath_b35, hk4, sv_rd, sv_up, lt_sv, map_bd1, map_bd2, map_gd, map_lt, map_ite, map_sm, bd1_map, bd2_map, sw_mk]
set_option maxHeartbeats 1000000 in
theorem k_X12_longestPath_b4 (Y : Mem) : ∀ (n : Nat) (e1 : Int32) (e2 : Int32), M12_longestPath_b4 (sv v Y) n e1 e2 = (M12_longestPath_b4 Y n e1 e2) := by
  intro n
  induction n with
  | zero => intros; rfl
  | succ n ih =>
    intro e1 e2
    simp only [M12_longestPath_b4, k_X12_longestPath_b35 ih, ih, sv_rd, sv_up, lt_sv, map_bd1, map_bd2, map_gd, map_lt, map_ite, map_sm, bd1_map, bd2_map, sw_mk]
set_option maxHeartbeats 1000000 in
theorem k_X12_longestPath (Y : Mem) : M12_longestPath (sv v Y) = (M12_longestPath Y) := by
  simp only [M12_longestPath, k_X12_longestPath_b4, sv_rd, sv_up, lt_sv, map_bd1, map_bd2, map_gd, map_lt, map_ite, map_sm, bd1_map, bd2_map, sw_mk]
set_option maxHeartbeats 1000000 in
theorem k_X12_meanDuration_b9  : ∀ (n : Nat) (e1 : Mem) (e2 : Int32) (e3 : Int32), M12_meanDuration_b9 n (sv v e1) e2 e3 = Option.map (sw v) (M12_meanDuration_b9 n e1 e2 e3) := by
  intro n
  induction n with
  | zero => intros; rfl
  | succ n ih =>
    intro e1 e2 e3
    simp only [M12_meanDuration_b9, k_X12_of, ih, sv_rd, sv_up, lt_sv, map_bd1, map_bd2, map_gd, map_lt, map_ite, map_sm, bd1_map, bd2_map, sw_mk]
set_option maxHeartbeats 1000000 in
theorem k_X12_meanDuration (Y : Mem) : M12_meanDuration (sv v Y) = Option.map (sw v) (M12_meanDuration Y) := by
  simp only [M12_meanDuration, k_X12_meanDuration_b9, sv_rd, sv_up, lt_sv, map_bd1, map_bd2, map_gd, map_lt, map_ite, map_sm, bd1_map, bd2_map, sw_mk]
set_option maxHeartbeats 1000000 in
theorem k_X12_minute (Y : Mem) : M12_minute (sv v Y) = Option.map (sw v) (M12_minute Y) := by
  simp only [M12_minute, k_X12_plain, sv_rd, sv_up, lt_sv, map_bd1, map_bd2, map_gd, map_lt, map_ite, map_sm, bd1_map, bd2_map, sw_mk]
set_option maxHeartbeats 1000000 in
theorem k_X12_minutesToBurn_b85 (a1 : Int32) (Y : Mem) (l3 : Int32) (s0 : Int32) : M12_minutesToBurn_b85 a1 (sv v Y) l3 s0 = Option.map (sw v) (M12_minutesToBurn_b85 a1 Y l3 s0) := by
  simp only [M12_minutesToBurn_b85, k_X12_copyBlock, sv_rd, sv_up, lt_sv, map_bd1, map_bd2, map_gd, map_lt, map_ite, map_sm, bd1_map, bd2_map, sw_mk]
set_option maxHeartbeats 1000000 in
theorem k_X12_minutesToBurn_b69 (a1 : Int32) (Y : Mem) (l3 : Int32) (l2 : Int32) : M12_minutesToBurn_b69 a1 (sv v Y) l3 l2 = Option.map (sw v) (M12_minutesToBurn_b69 a1 Y l3 l2) := by
  simp only [M12_minutesToBurn_b69, k_X12_of, k_X12_minutesToBurn_b85, sv_rd, sv_up, lt_sv, map_bd1, map_bd2, map_gd, map_lt, map_ite, map_sm, bd1_map, bd2_map, sw_mk]
set_option maxHeartbeats 1000000 in
theorem k_X12_minutesToBurn_b41 (a1 : Int32) : ∀ (n : Nat) (e1 : Mem) (e2 : Int32) (e3 : Int32), M12_minutesToBurn_b41 a1 n (sv v e1) e2 e3 = Option.map (sw v) (M12_minutesToBurn_b41 a1 n e1 e2 e3) := by
  intro n
  induction n with
  | zero => intros; rfl
  | succ n ih =>
    intro e1 e2 e3
    simp only [M12_minutesToBurn_b41, k_X12_minutesToBurn_b69, k_X12_of, k_X12_passMinute, ih, sv_rd, sv_up, lt_sv, map_bd1, map_bd2, map_gd, map_lt, map_ite, map_sm, bd1_map, bd2_map, sw_mk]
set_option maxHeartbeats 1000000 in
theorem k_X12_minutesToBurn_b14 (a1 : Int32) (Y : Mem) (s0 : Int32) : M12_minutesToBurn_b14 a1 (sv v Y) s0 = Option.map (sw v) (M12_minutesToBurn_b14 a1 Y s0) := by
  simp only [M12_minutesToBurn_b14, k_X12_fails, k_X12_copyBlock, k_X12_of, k_X12_minutesToBurn_b41, sv_rd, sv_up, lt_sv, map_bd1, map_bd2, map_gd, map_lt, map_ite, map_sm, bd1_map, bd2_map, sw_mk]
set_option maxHeartbeats 1000000 in
theorem k_X12_minutesToBurn (Y : Mem) (a1 : Int32) : M12_minutesToBurn (sv v Y) a1 = Option.map (sw v) (M12_minutesToBurn Y a1) := by
  simp only [M12_minutesToBurn, k_X12_isStep, k_X12_minutesToBurn_b14, sv_rd, sv_up, lt_sv, map_bd1, map_bd2, map_gd, map_lt, map_ite, map_sm, bd1_map, bd2_map, sw_mk]
set_option maxHeartbeats 1000000 in
theorem k_X12_minutesToFinish (Y : Mem) : M12_minutesToFinish (sv v Y) = Option.map (sw v) (M12_minutesToFinish Y) := by
  simp only [M12_minutesToFinish, k_X12_copyBlock, k_X12_simulate, sv_rd, sv_up, lt_sv, map_bd1, map_bd2, map_gd, map_lt, map_ite, map_sm, bd1_map, bd2_map, sw_mk]
set_option maxHeartbeats 1000000 in
theorem k_X12_minutesWithCooks_b15 (a1 : Int32) (Y : Mem) (s0 : Int32) : M12_minutesWithCooks_b15 a1 (sv v Y) s0 = Option.map (sw v) (M12_minutesWithCooks_b15 a1 Y s0) := by
  simp only [M12_minutesWithCooks_b15, k_X12_fails, k_X12_finishWith, sv_rd, sv_up, lt_sv, map_bd1, map_bd2, map_gd, map_lt, map_ite, map_sm, bd1_map, bd2_map, sw_mk]
end
