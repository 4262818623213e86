/-! PHASE 3: THE REFERENCE DOES NOT LOOK AT THE LAW'S OWN CELL -/
section
variable {v : Mem}
set_option maxHeartbeats 1000000 in
theorem k_X12_readyStep (Y : Mem) (a1 : Int32) : M12_readyStep (sv v Y) a1 = Option.map (sw v) (M12_readyStep Y a1) := by
  simp only [M12_readyStep, k_X12_queueReady, k_X12_in, sv_rd, sv_up, lt_sv, map_bd1, map_bd2, map_gd, map_lt, map_ite, map_sm, bd1_map, bd2_map, sw_mk]
set_option maxHeartbeats 1000000 in
theorem k_X12_redo_b33 (a1 : Int32) (Y : Mem) (s0 : Int32) (s1 : Int32) : M12_redo_b33 a1 (sv v Y) s0 s1 = Option.map (sw v) (M12_redo_b33 a1 Y s0 s1) := by
  simp only [M12_redo_b33, k_X12_fails, k_X12_remember, k_X12_redoIt, sv_rd, sv_up, lt_sv, map_bd1, map_bd2, map_gd, map_lt, map_ite, map_sm, bd1_map, bd2_map, sw_mk]
set_option maxHeartbeats 1000000 in
theorem k_X12_redo_b32 (a1 : Int32) (Y : Mem) (s0 : Int32) : M12_redo_b32 a1 (sv v Y) s0 = Option.map (sw v) (M12_redo_b32 a1 Y s0) := by
  simp only [M12_redo_b32, k_X12_redo_b33, sv_rd, sv_up, lt_sv, map_bd1, map_bd2, map_gd, map_lt, map_ite, map_sm, bd1_map, bd2_map, sw_mk]
set_option maxHeartbeats 1000000 in
theorem k_X12_redo_b16 (a1 : Int32) (Y : Mem) (l2 : Int32) (s0 : Int32) : M12_redo_b16 a1 (sv v Y) l2 s0 = Option.map (sw v) (M12_redo_b16 a1 Y l2 s0) := by
  simp only [M12_redo_b16, k_X12_redo_b32, k_X12_canRedo, k_X12_redo_b33, sv_rd, sv_up, lt_sv, map_bd1, map_bd2, map_gd, map_lt, map_ite, map_sm, bd1_map, bd2_map, sw_mk]
set_option maxHeartbeats 1000000 in
theorem k_X12_redo (Y : Mem) (a1 : Int32) : M12_redo (sv v Y) a1 = Option.map (sw v) (M12_redo Y a1) := by
  simp only [M12_redo, k_X12_isStep, k_X12_redo_b16, sv_rd, sv_up, lt_sv, map_bd1, map_bd2, map_gd, map_lt, map_ite, map_sm, bd1_map, bd2_map, sw_mk]
set_option maxHeartbeats 1000000 in
theorem k_X12_remaining (Y : Mem) (a1 : Int32) : M12_remaining (sv v Y) a1 = Option.map (sw v) (M12_remaining Y a1) := by
  simp only [M12_remaining, k_X12_field, sv_rd, sv_up, lt_sv, map_bd1, map_bd2, map_gd, map_lt, map_ite, map_sm, bd1_map, bd2_map, sw_mk]
set_option maxHeartbeats 1000000 in
theorem k_X12_restore_b35 (a1 : Int32) (Y : Mem) (s0 : Int32) (s1 : Int32) : M12_restore_b35 a1 (sv v Y) s0 s1 = Option.map (sw v) (M12_restore_b35 a1 Y s0 s1) := by
  simp only [M12_restore_b35, k_X12_fails, k_X12_copyBlock, sv_rd, sv_up, lt_sv, map_bd1, map_bd2, map_gd, map_lt, map_ite, map_sm, bd1_map, bd2_map, sw_mk]
set_option maxHeartbeats 1000000 in
theorem k_X12_restore_b34 (a1 : Int32) (Y : Mem) (s0 : Int32) : M12_restore_b34 a1 (sv v Y) s0 = Option.map (sw v) (M12_restore_b34 a1 Y s0) := by
  simp only [M12_restore_b34, k_X12_restore_b35, sv_rd, sv_up, lt_sv, map_bd1, map_bd2, map_gd, map_lt, map_ite, map_sm, bd1_map, bd2_map, sw_mk]
set_option maxHeartbeats 1000000 in
theorem k_X12_restore_b17 (a1 : Int32) (Y : Mem) (l2 : Int32) (s0 : Int32) : M12_restore_b17 a1 (sv v Y) l2 s0 = Option.map (sw v) (M12_restore_b17 a1 Y l2 s0) := by
  simp only [M12_restore_b17, k_X12_restore_b34, k_X12_restore_b35, sv_rd, sv_up, lt_sv, map_bd1, map_bd2, map_gd, map_lt, map_ite, map_sm, bd1_map, bd2_map, sw_mk]
set_option maxHeartbeats 1000000 in
theorem k_X12_restore (Y : Mem) (a1 : Int32) : M12_restore (sv v Y) a1 = Option.map (sw v) (M12_restore Y a1) := by
  simp only [M12_restore, k_X12_in, k_X12_restore_b17, sv_rd, sv_up, lt_sv, map_bd1, map_bd2, map_gd, map_lt, map_ite, map_sm, bd1_map, bd2_map, sw_mk]
set_option maxHeartbeats 1000000 in
theorem k_X12_rootBlocker_b28 (a1 : Int32) : ∀ (n : Nat) (e1 : Mem) (e2 : Int32) (e3 : Int32), M12_rootBlocker_b28 a1 n (sv v e1) e2 e3 = Option.map (sw v) (M12_rootBlocker_b28 a1 n e1 e2 e3) := by
  intro n
  induction n with
  | zero => intros; rfl
  | succ n ih =>
    intro e1 e2 e3
    simp only [M12_rootBlocker_b28, k_X12_reasonFor, k_X12_firstOpen, ih, sv_rd, sv_up, lt_sv, map_bd1, map_bd2, map_gd, map_lt, map_ite, map_sm, bd1_map, bd2_map, sw_mk]
set_option maxHeartbeats 1000000 in
theorem k_X12_rootBlocker_b14 (a1 : Int32) (Y : Mem) (s0 : Int32) : M12_rootBlocker_b14 a1 (sv v Y) s0 = Option.map (sw v) (M12_rootBlocker_b14 a1 Y s0) := by
  simp only [M12_rootBlocker_b14, k_X12_fails, k_X12_rootBlocker_b28, sv_rd, sv_up, lt_sv, map_bd1, map_bd2, map_gd, map_lt, map_ite, map_sm, bd1_map, bd2_map, sw_mk]
set_option maxHeartbeats 1000000 in
theorem k_X12_rootBlocker (Y : Mem) (a1 : Int32) : M12_rootBlocker (sv v Y) a1 = Option.map (sw v) (M12_rootBlocker Y a1) := by
  simp only [M12_rootBlocker, k_X12_isStep, k_X12_rootBlocker_b14, sv_rd, sv_up, lt_sv, map_bd1, map_bd2, map_gd, map_lt, map_ite, map_sm, bd1_map, bd2_map, sw_mk]
set_option maxHeartbeats 1000000 in
theorem k_X12_runScript_b42  : ∀ (n : Nat) (e1 : Mem) (e2 : Int32) (e3 : Int32), M12_runScript_b42 n (sv v e1) e2 e3 = Option.map (sw v) (M12_runScript_b42 n e1 e2 e3) := by
  intro n
  induction n with
  | zero => intros; rfl
  | succ n ih =>
    intro e1 e2 e3
    simp only [M12_runScript_b42, k_X12_canDo, k_X12_doIt, ih, sv_rd, sv_up, lt_sv, map_bd1, map_bd2, map_gd, map_lt, map_ite, map_sm, bd1_map, bd2_map, sw_mk]
set_option maxHeartbeats 1000000 in
theorem k_X12_runScript_b25 (Y : Mem) (l1 : Int32) (s0 : Int32) : M12_runScript_b25 (sv v Y) l1 s0 = Option.map (sw v) (M12_runScript_b25 Y l1 s0) := by
  simp only [M12_runScript_b25, k_X12_fails, k_X12_remember, k_X12_runScript_b42, sv_rd, sv_up, lt_sv, map_bd1, map_bd2, map_gd, map_lt, map_ite, map_sm, bd1_map, bd2_map, sw_mk]
set_option maxHeartbeats 1000000 in
theorem k_X12_runScript (Y : Mem) : M12_runScript (sv v Y) = Option.map (sw v) (M12_runScript Y) := by
  simp only [M12_runScript, k_X12_begin, k_X12_parseScript, k_X12_runScript_b25, sv_rd, sv_up, lt_sv, map_bd1, map_bd2, map_gd, map_lt, map_ite, map_sm, bd1_map, bd2_map, sw_mk]
set_option maxHeartbeats 1000000 in
theorem k_X12_salt (Y : Mem) : M12_salt (sv v Y) = Option.map (sw v) (M12_salt Y) := by
  simp only [M12_salt, k_X12_plain, sv_rd, sv_up, lt_sv, map_bd1, map_bd2, map_gd, map_lt, map_ite, map_sm, bd1_map, bd2_map, sw_mk]
set_option maxHeartbeats 1000000 in
theorem k_X12_saltNeeded_b14  : ∀ (n : Nat) (e1 : Mem) (e2 : Int32) (e3 : Int32), M12_saltNeeded_b14 n (sv v e1) e2 e3 = Option.map (sw v) (M12_saltNeeded_b14 n e1 e2 e3) := by
  intro n
  induction n with
  | zero => intros; rfl
  | succ n ih =>
    intro e1 e2 e3
    simp only [M12_saltNeeded_b14, k_X12_of, ih, sv_rd, sv_up, lt_sv, map_bd1, map_bd2, map_gd, map_lt, map_ite, map_sm, bd1_map, bd2_map, sw_mk]
set_option maxHeartbeats 1000000 in
theorem k_X12_saltNeeded (Y : Mem) : M12_saltNeeded (sv v Y) = Option.map (sw v) (M12_saltNeeded Y) := by
  simp only [M12_saltNeeded, k_X12_saltNeeded_b14, sv_rd, sv_up, lt_sv, map_bd1, map_bd2, map_gd, map_lt, map_ite, map_sm, bd1_map, bd2_map, sw_mk]
set_option maxHeartbeats 1000000 in
theorem k_X12_save_b15 (a1 : Int32) (Y : Mem) (s0 : Int32) : M12_save_b15 a1 (sv v Y) s0 = Option.map (sw v) (M12_save_b15 a1 Y s0) := by
  simp only [M12_save_b15, k_X12_fails, k_X12_copyBlock, sv_rd, sv_up, lt_sv, map_bd1, map_bd2, map_gd, map_lt, map_ite, map_sm, bd1_map, bd2_map, sw_mk]
set_option maxHeartbeats 1000000 in
theorem k_X12_save (Y : Mem) (a1 : Int32) : M12_save (sv v Y) a1 = Option.map (sw v) (M12_save Y a1) := by
  simp only [M12_save, k_X12_in, k_X12_save_b15, sv_rd, sv_up, lt_sv, map_bd1, map_bd2, map_gd, map_lt, map_ite, map_sm, bd1_map, bd2_map, sw_mk]
set_option maxHeartbeats 1000000 in
theorem k_X12_serve_b13 (Y : Mem) (s0 : Int32) : M12_serve_b13 (sv v Y) s0 = Option.map (sw v) (M12_serve_b13 Y s0) := by
  simp only [M12_serve_b13, k_X12_fails, k_X12_remember, k_X12_tasteNow, sv_rd, sv_up, lt_sv, map_bd1, map_bd2, map_gd, map_lt, map_ite, map_sm, bd1_map, bd2_map, sw_mk]
set_option maxHeartbeats 1000000 in
theorem k_X12_serve (Y : Mem) : M12_serve (sv v Y) = Option.map (sw v) (M12_serve Y) := by
  simp only [M12_serve, k_X12_servingReason, k_X12_serve_b13, sv_rd, sv_up, lt_sv, map_bd1, map_bd2, map_gd, map_lt, map_ite, map_sm, bd1_map, bd2_map, sw_mk]
set_option maxHeartbeats 1000000 in
theorem k_X12_setCooks_b15 (a1 : Int32) (Y : Mem) (s0 : Int32) : M12_setCooks_b15 a1 (sv v Y) s0 = Option.map (sw v) (M12_setCooks_b15 a1 Y s0) := by
  simp only [M12_setCooks_b15, k_X12_fails, k_X12_remember, sv_rd, sv_up, lt_sv, map_bd1, map_bd2, map_gd, map_lt, map_ite, map_sm, bd1_map, bd2_map, sw_mk]
set_option maxHeartbeats 1000000 in
theorem k_X12_setCooks (Y : Mem) (a1 : Int32) : M12_setCooks (sv v Y) a1 = Option.map (sw v) (M12_setCooks Y a1) := by
  simp only [M12_setCooks, k_X12_in, k_X12_setCooks_b15, sv_rd, sv_up, lt_sv, map_bd1, map_bd2, map_gd, map_lt, map_ite, map_sm, bd1_map, bd2_map, sw_mk]
set_option maxHeartbeats 1000000 in
theorem k_X12_setDuration_b29 (a1 : Int32) (a2 : Int32) (Y : Mem) (s0 : Int32) (s1 : Int32) : M12_setDuration_b29 a1 a2 (sv v Y) s0 s1 = Option.map (sw v) (M12_setDuration_b29 a1 a2 Y s0 s1) := by
  simp only [M12_setDuration_b29, k_X12_fails, k_X12_remember, k_X12_of, k_X12_set, sv_rd, sv_up, lt_sv, map_bd1, map_bd2, map_gd, map_lt, map_ite, map_sm, bd1_map, bd2_map, sw_mk]
set_option maxHeartbeats 1000000 in
theorem k_X12_setDuration_b14 (a1 : Int32) (a2 : Int32) (Y : Mem) (s0 : Int32) : M12_setDuration_b14 a1 a2 (sv v Y) s0 = Option.map (sw v) (M12_setDuration_b14 a1 a2 Y s0) := by
  simp only [M12_setDuration_b14, k_X12_in, k_X12_setDuration_b29, sv_rd, sv_up, lt_sv, map_bd1, map_bd2, map_gd, map_lt, map_ite, map_sm, bd1_map, bd2_map, sw_mk]
set_option maxHeartbeats 1000000 in
theorem k_X12_setDuration (Y : Mem) (a1 : Int32) (a2 : Int32) : M12_setDuration (sv v Y) a1 a2 = Option.map (sw v) (M12_setDuration Y a1 a2) := by
  simp only [M12_setDuration, k_X12_isStep, k_X12_setDuration_b14, sv_rd, sv_up, lt_sv, map_bd1, map_bd2, map_gd, map_lt, map_ite, map_sm, bd1_map, bd2_map, sw_mk]
set_option maxHeartbeats 1000000 in
theorem k_X12_slack_b14 (a1 : Int32) (Y : Mem) (s0 : Int32) : M12_slack_b14 a1 (sv v Y) s0 = Option.map (sw v) (M12_slack_b14 a1 Y s0) := by
  simp only [M12_slack_b14, k_X12_fails, k_X12_computePaths, k_X12_computeHeads, k_X12_longestPath, sv_rd, sv_up, lt_sv, map_bd1, map_bd2, map_gd, map_lt, map_ite, map_sm, bd1_map, bd2_map, sw_mk]
set_option maxHeartbeats 1000000 in
theorem k_X12_slack (Y : Mem) (a1 : Int32) : M12_slack (sv v Y) a1 = Option.map (sw v) (M12_slack Y a1) := by
  simp only [M12_slack, k_X12_isStep, k_X12_slack_b14, sv_rd, sv_up, lt_sv, map_bd1, map_bd2, map_gd, map_lt, map_ite, map_sm, bd1_map, bd2_map, sw_mk]
end
