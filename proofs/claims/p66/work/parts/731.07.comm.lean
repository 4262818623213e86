/-! PHASE 3: THE REFERENCE DOES NOT LOOK AT THE LAW'S OWN CELL -/
section
variable {v : Mem}
set_option maxHeartbeats 1000000 in
theorem k_X12_minutesWithCooks (Y : Mem) (a1 : Int32) : M12_minutesWithCooks (sv v Y) a1 = Option.map (sw v) (M12_minutesWithCooks Y a1) := by
  simp only [M12_minutesWithCooks, k_X12_in, k_X12_minutesWithCooks_b15, sv_rd, sv_up, lt_sv, map_bd1, map_bd2, map_gd, map_lt, map_ite, map_sm, bd1_map, bd2_map, sw_mk]
set_option maxHeartbeats 1000000 in
theorem k_X12_nameLetter_b42 (a1 : Int32) (a2 : Int32) (Y : Mem) (s0 : Int32) : M12_nameLetter_b42 a1 a2 (sv v Y) s0 = Option.map (sw v) (M12_nameLetter_b42 a1 a2 Y s0) := by
  simp only [M12_nameLetter_b42, k_X12_fails, k_X12_of, sv_rd, sv_up, lt_sv, map_bd1, map_bd2, map_gd, map_lt, map_ite, map_sm, bd1_map, bd2_map, sw_mk]
set_option maxHeartbeats 1000000 in
theorem k_X12_nameLetter_b37 (a1 : Int32) (a2 : Int32) (Y : Mem) : M12_nameLetter_b37 a1 a2 (sv v Y) = Option.map (sw v) (M12_nameLetter_b37 a1 a2 Y) := by
  simp only [M12_nameLetter_b37, k_X12_nameLetter_b42, sv_rd, sv_up, lt_sv, map_bd1, map_bd2, map_gd, map_lt, map_ite, map_sm, bd1_map, bd2_map, sw_mk]
set_option maxHeartbeats 1000000 in
theorem k_X12_nameLetter_b25 (a1 : Int32) (a2 : Int32) (Y : Mem) (s0 : Int32) (s2 : Int32) (s3 : Int32) : M12_nameLetter_b25 a1 a2 (sv v Y) s0 s2 s3 = Option.map (sw v) (M12_nameLetter_b25 a1 a2 Y s0 s2 s3) := by
  simp only [M12_nameLetter_b25, k_X12_of, k_X12_in, k_X12_nameLetter_b37, k_X12_nameLetter_b42, sv_rd, sv_up, lt_sv, map_bd1, map_bd2, map_gd, map_lt, map_ite, map_sm, bd1_map, bd2_map, sw_mk]
set_option maxHeartbeats 1000000 in
theorem k_X12_nameLetter (Y : Mem) (a1 : Int32) (a2 : Int32) : M12_nameLetter (sv v Y) a1 a2 = Option.map (sw v) (M12_nameLetter Y a1 a2) := by
  simp only [M12_nameLetter, k_X12_isStep, k_X12_nameLetter_b37, k_X12_nameLetter_b25, sv_rd, sv_up, lt_sv, map_bd1, map_bd2, map_gd, map_lt, map_ite, map_sm, bd1_map, bd2_map, sw_mk]
set_option maxHeartbeats 1000000 in
theorem k_X12_outputByte_b20 (a1 : Int32) (Y : Mem) (s0 : Int32) : M12_outputByte_b20 a1 (sv v Y) s0 = Option.map (sw v) (M12_outputByte_b20 a1 Y s0) := by
  simp only [M12_outputByte_b20, k_X12_fails, sv_rd, sv_up, lt_sv, map_bd1, map_bd2, map_gd, map_lt, map_ite, map_sm, bd1_map, bd2_map, sw_mk]
set_option maxHeartbeats 1000000 in
theorem k_X12_outputByte (Y : Mem) (a1 : Int32) : M12_outputByte (sv v Y) a1 = Option.map (sw v) (M12_outputByte Y a1) := by
  simp only [M12_outputByte, k_X12_in, k_X12_outputByte_b20, sv_rd, sv_up, lt_sv, map_bd1, map_bd2, map_gd, map_lt, map_ite, map_sm, bd1_map, bd2_map, sw_mk]
set_option maxHeartbeats 1000000 in
theorem k_X12_panCapacity_b14 (a1 : Int32) (Y : Mem) (s0 : Int32) : M12_panCapacity_b14 a1 (sv v Y) s0 = Option.map (sw v) (M12_panCapacity_b14 a1 Y s0) := by
  simp only [M12_panCapacity_b14, k_X12_fails, k_X12_capacity, sv_rd, sv_up, lt_sv, map_bd1, map_bd2, map_gd, map_lt, map_ite, map_sm, bd1_map, bd2_map, sw_mk]
set_option maxHeartbeats 1000000 in
theorem k_X12_panCapacity (Y : Mem) (a1 : Int32) : M12_panCapacity (sv v Y) a1 = Option.map (sw v) (M12_panCapacity Y a1) := by
  simp only [M12_panCapacity, k_X12_isPan, k_X12_panCapacity_b14, sv_rd, sv_up, lt_sv, map_bd1, map_bd2, map_gd, map_lt, map_ite, map_sm, bd1_map, bd2_map, sw_mk]
set_option maxHeartbeats 1000000 in
theorem k_X12_panType (Y : Mem) (a1 : Int32) : M12_panType (sv v Y) a1 = Option.map (sw v) (M12_panType Y a1) := by
  simp only [M12_panType, k_X12_field, sv_rd, sv_up, lt_sv, map_bd1, map_bd2, map_gd, map_lt, map_ite, map_sm, bd1_map, bd2_map, sw_mk]
set_option maxHeartbeats 1000000 in
theorem k_X12_pansInUse_b14 (a1 : Int32) (Y : Mem) (s0 : Int32) : M12_pansInUse_b14 a1 (sv v Y) s0 = Option.map (sw v) (M12_pansInUse_b14 a1 Y s0) := by
  simp only [M12_pansInUse_b14, k_X12_fails, k_X12_usedPans, sv_rd, sv_up, lt_sv, map_bd1, map_bd2, map_gd, map_lt, map_ite, map_sm, bd1_map, bd2_map, sw_mk]
set_option maxHeartbeats 1000000 in
theorem k_X12_pansInUse (Y : Mem) (a1 : Int32) : M12_pansInUse (sv v Y) a1 = Option.map (sw v) (M12_pansInUse Y a1) := by
  simp only [M12_pansInUse, k_X12_isPan, k_X12_pansInUse_b14, sv_rd, sv_up, lt_sv, map_bd1, map_bd2, map_gd, map_lt, map_ite, map_sm, bd1_map, bd2_map, sw_mk]
set_option maxHeartbeats 1000000 in
theorem k_X12_parseStepName (Y : Mem) (a1 : Int32) : M12_parseStepName (sv v Y) a1 = Option.map (sw v) (M12_parseStepName Y a1) := by
  simp only [M12_parseStepName, k_X12_isShortWord, k_X12_stepNamed, k_X12_wrong, k_X12_token, sv_rd, sv_up, lt_sv, map_bd1, map_bd2, map_gd, map_lt, map_ite, map_sm, bd1_map, bd2_map, sw_mk]
set_option maxHeartbeats 1000000 in
theorem k_X12_parseNumber (Y : Mem) (a1 : Int32) : M12_parseNumber (sv v Y) a1 = Option.map (sw v) (M12_parseNumber Y a1) := by
  simp only [M12_parseNumber, k_X12_token, k_X12_wrong, sv_rd, sv_up, lt_sv, map_bd1, map_bd2, map_gd, map_lt, map_ite, map_sm, bd1_map, bd2_map, sw_mk]
set_option maxHeartbeats 1000000 in
theorem k_X12_parseArguments (Y : Mem) (a1 : Int32) (a2 : Int32) : M12_parseArguments (sv v Y) a1 a2 = Option.map (sw v) (M12_parseArguments Y a1 a2) := by
  simp only [M12_parseArguments, k_X12_parseStepName, k_X12_parseNumber, sv_rd, sv_up, lt_sv, map_bd1, map_bd2, map_gd, map_lt, map_ite, map_sm, bd1_map, bd2_map, sw_mk]
set_option maxHeartbeats 1000000 in
theorem k_X12_parseScript_b46 {k2 k2_ : Mem → Int32 → Option (Int32 × Mem)} (hk2 : ∀ (x0 : Mem) (x1 : Int32), k2_ (sv v x0) x1 = Option.map (sw v) (k2 x0 x1)) (Y : Mem) (l2 : Int32) (l1 : Int32) (s0 : Int32) : M12_parseScript_b46 k2_ (sv v Y) l2 l1 s0 = Option.map (sw v) (M12_parseScript_b46 k2 Y l2 l1 s0) := by
  simp only [M12_parseScript_b46, k_X12_token, k_X12_parseArguments, k_X12_semicolon, hk2, sv_rd, sv_up, lt_sv, map_bd1, map_bd2, map_gd, map_lt, map_ite, map_sm, bd1_map, bd2_map, sw_mk]
set_option maxHeartbeats 1000000 in
theorem k_X12_parseScript_b33 {k2 k2_ : Mem → Int32 → Option (Int32 × Mem)} (hk2 : ∀ (x0 : Mem) (x1 : Int32), k2_ (sv v x0) x1 = Option.map (sw v) (k2 x0 x1)) (Y : Mem) (l2 : Int32) (l1 : Int32) : M12_parseScript_b33 k2_ (sv v Y) l2 l1 = Option.map (sw v) (M12_parseScript_b33 k2 Y l2 l1) := by
  simp only [M12_parseScript_b33, hk2, k_X12_parseScript_b46 hk2, sv_rd, sv_up, lt_sv, map_bd1, map_bd2, map_gd, map_lt, map_ite, map_sm, bd1_map, bd2_map, sw_mk]
set_option maxHeartbeats 1000000 in
theorem k_X12_parseScript_b2  : ∀ (n : Nat) (e1 : Mem) (e2 : Int32), M12_parseScript_b2 n (sv v e1) e2 = Option.map (sw v) (M12_parseScript_b2 n e1 e2) := by
  intro n
  induction n with
  | zero => intros; rfl
  | succ n ih =>
    intro e1 e2
    simp only [M12_parseScript_b2, k_X12_commandHere, k_X12_wrong, k_X12_parseScript_b46 ih, k_X12_parseScript_b33 ih, ih, sv_rd, sv_up, lt_sv, map_bd1, map_bd2, map_gd, map_lt, map_ite, map_sm, bd1_map, bd2_map, sw_mk]
set_option maxHeartbeats 1000000 in
theorem k_X12_parseScript (Y : Mem) : M12_parseScript (sv v Y) = Option.map (sw v) (M12_parseScript Y) := by
  simp only [M12_parseScript, k_X12_parseScript_b2, sv_rd, sv_up, lt_sv, map_bd1, map_bd2, map_gd, map_lt, map_ite, map_sm, bd1_map, bd2_map, sw_mk]
set_option maxHeartbeats 1000000 in
theorem k_X12_pass_b42 (a1 : Int32) (Y : Mem) (s0 : Int32) (s1 : Int32) : M12_pass_b42 a1 (sv v Y) s0 s1 = Option.map (sw v) (M12_pass_b42 a1 Y s0 s1) := by
  simp only [M12_pass_b42, k_X12_fails, k_X12_remember, k_X12_passMinutes, sv_rd, sv_up, lt_sv, map_bd1, map_bd2, map_gd, map_lt, map_ite, map_sm, bd1_map, bd2_map, sw_mk]
set_option maxHeartbeats 1000000 in
theorem k_X12_pass_b41 (a1 : Int32) (Y : Mem) (s0 : Int32) : M12_pass_b41 a1 (sv v Y) s0 = Option.map (sw v) (M12_pass_b41 a1 Y s0) := by
  simp only [M12_pass_b41, k_X12_pass_b42, sv_rd, sv_up, lt_sv, map_bd1, map_bd2, map_gd, map_lt, map_ite, map_sm, bd1_map, bd2_map, sw_mk]
set_option maxHeartbeats 1000000 in
theorem k_X12_pass_b19 (a1 : Int32) (Y : Mem) (l2 : Int32) (s0 : Int32) : M12_pass_b19 a1 (sv v Y) l2 s0 = Option.map (sw v) (M12_pass_b19 a1 Y l2 s0) := by
  simp only [M12_pass_b19, k_X12_pass_b41, k_X12_pass_b42, sv_rd, sv_up, lt_sv, map_bd1, map_bd2, map_gd, map_lt, map_ite, map_sm, bd1_map, bd2_map, sw_mk]
set_option maxHeartbeats 1000000 in
theorem k_X12_pass (Y : Mem) (a1 : Int32) : M12_pass (sv v Y) a1 = Option.map (sw v) (M12_pass Y a1) := by
  simp only [M12_pass, k_X12_in, k_X12_pass_b19, sv_rd, sv_up, lt_sv, map_bd1, map_bd2, map_gd, map_lt, map_ite, map_sm, bd1_map, bd2_map, sw_mk]
set_option maxHeartbeats 1000000 in
theorem k_X12_pathLength_b14 (a1 : Int32) (Y : Mem) (s0 : Int32) : M12_pathLength_b14 a1 (sv v Y) s0 = Option.map (sw v) (M12_pathLength_b14 a1 Y s0) := by
  simp only [M12_pathLength_b14, k_X12_fails, k_X12_computePaths, sv_rd, sv_up, lt_sv, map_bd1, map_bd2, map_gd, map_lt, map_ite, map_sm, bd1_map, bd2_map, sw_mk]
set_option maxHeartbeats 1000000 in
theorem k_X12_pathLength (Y : Mem) (a1 : Int32) : M12_pathLength (sv v Y) a1 = Option.map (sw v) (M12_pathLength Y a1) := by
  simp only [M12_pathLength, k_X12_isStep, k_X12_pathLength_b14, sv_rd, sv_up, lt_sv, map_bd1, map_bd2, map_gd, map_lt, map_ite, map_sm, bd1_map, bd2_map, sw_mk]
set_option maxHeartbeats 1000000 in
theorem k_X12_predecessor_b14 (a1 : Int32) (a2 : Int32) (Y : Mem) (s0 : Int32) : M12_predecessor_b14 a1 a2 (sv v Y) s0 = Option.map (sw v) (M12_predecessor_b14 a1 a2 Y s0) := by
  simp only [M12_predecessor_b14, k_X12_fails, k_X12_of, k_X12_in, sv_rd, sv_up, lt_sv, map_bd1, map_bd2, map_gd, map_lt, map_ite, map_sm, bd1_map, bd2_map, sw_mk]
set_option maxHeartbeats 1000000 in
theorem k_X12_predecessor (Y : Mem) (a1 : Int32) (a2 : Int32) : M12_predecessor (sv v Y) a1 a2 = Option.map (sw v) (M12_predecessor Y a1 a2) := by
  simp only [M12_predecessor, k_X12_isStep, k_X12_predecessor_b14, sv_rd, sv_up, lt_sv, map_bd1, map_bd2, map_gd, map_lt, map_ite, map_sm, bd1_map, bd2_map, sw_mk]
set_option maxHeartbeats 1000000 in
theorem k_X12_put (Y : Mem) (a1 : Int32) : M12_put (sv v Y) a1 = Option.map (sv v) (M12_put Y a1) := by
  simp only [M12_put, sv_rd, sv_up, lt_sv, map_bd1, map_bd2, map_gd, map_lt, map_ite, map_sm, bd1_map, bd2_map, sw_mk]
set_option maxHeartbeats 1000000 in
theorem k_X12_putMark_b70 (a1 : Int32) (Y : Mem) : M12_putMark_b70 a1 (sv v Y) = Option.map (sv v) (M12_putMark_b70 a1 Y) := by
  simp only [M12_putMark_b70, k_X12_of, k_X12_put, sv_rd, sv_up, lt_sv, map_bd1, map_bd2, map_gd, map_lt, map_ite, map_sm, bd1_map, bd2_map, sw_mk]
set_option maxHeartbeats 1000000 in
theorem k_X12_putMark (Y : Mem) (a1 : Int32) : M12_putMark (sv v Y) a1 = Option.map (sv v) (M12_putMark Y a1) := by
  simp only [M12_putMark, k_X12_of, k_X12_put, k_X12_putMark_b70, sv_rd, sv_up, lt_sv, map_bd1, map_bd2, map_gd, map_lt, map_ite, map_sm, bd1_map, bd2_map, sw_mk]
end
