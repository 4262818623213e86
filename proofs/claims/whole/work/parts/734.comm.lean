/-! PHASE 3: THE REFERENCE DOES NOT LOOK AT THE LAW'S OWN CELL -/
section
variable {v : Int32}
set_option maxHeartbeats 1000000 in
theorem k_X12_parseScript_b46 {k2 k2_ : Mem → Int32 → Option (Int32 × Mem)} (hk2 : ∀ (x0 : Mem) (x1 : Int32), k2_ (sv v x0) x1 = Option.map (sw v) (k2 x0 x1)) (Y : Mem) (l2 : Int32) (l1 : Int32) (s0 : Int32) : X12_parseScript_b46 k2_ (sv v Y) l2 l1 s0 = Option.map (sw v) (X12_parseScript_b46 k2 Y l2 l1 s0) := by
  simp only [X12_parseScript_b46, k_X12_token, k_X12_parseArguments, k_X12_semicolon, hk2, sv_rd, sv_up, lt_sv, map_bd1, map_bd2, map_gd, map_lt, map_ite, map_sm, bd1_map, bd2_map, sw_mk]
set_option maxHeartbeats 1000000 in
theorem k_X12_parseScript_b33 {k2 k2_ : Mem → Int32 → Option (Int32 × Mem)} (hk2 : ∀ (x0 : Mem) (x1 : Int32), k2_ (sv v x0) x1 = Option.map (sw v) (k2 x0 x1)) (Y : Mem) (l2 : Int32) (l1 : Int32) : X12_parseScript_b33 k2_ (sv v Y) l2 l1 = Option.map (sw v) (X12_parseScript_b33 k2 Y l2 l1) := by
  simp only [X12_parseScript_b33, hk2, k_X12_parseScript_b46 hk2, sv_rd, sv_up, lt_sv, map_bd1, map_bd2, map_gd, map_lt, map_ite, map_sm, bd1_map, bd2_map, sw_mk]
set_option maxHeartbeats 1000000 in
theorem k_X12_parseScript_b2  : ∀ (n : Nat) (e1 : Mem) (e2 : Int32), X12_parseScript_b2 n (sv v e1) e2 = Option.map (sw v) (X12_parseScript_b2 n e1 e2) := by
  intro n
  induction n with
  | zero => intros; rfl
  | succ n ih =>
    intro e1 e2
    simp only [X12_parseScript_b2, k_X12_commandHere, k_X12_wrong, k_X12_parseScript_b46 ih, k_X12_parseScript_b33 ih, ih, sv_rd, sv_up, lt_sv, map_bd1, map_bd2, map_gd, map_lt, map_ite, map_sm, bd1_map, bd2_map, sw_mk]
set_option maxHeartbeats 1000000 in
theorem k_X12_parseScript (Y : Mem) : X12_parseScript (sv v Y) = Option.map (sw v) (X12_parseScript Y) := by
  simp only [X12_parseScript, k_X12_parseScript_b2, sv_rd, sv_up, lt_sv, map_bd1, map_bd2, map_gd, map_lt, map_ite, map_sm, bd1_map, bd2_map, sw_mk]
set_option maxHeartbeats 1000000 in
theorem k_X12_pass_b42 (a1 : Int32) (Y : Mem) (s0 : Int32) (s1 : Int32) : X12_pass_b42 a1 (sv v Y) s0 s1 = Option.map (sw v) (X12_pass_b42 a1 Y s0 s1) := by
  simp only [X12_pass_b42, k_X12_fails, k_X12_remember, k_X12_passMinutes, sv_rd, sv_up, lt_sv, map_bd1, map_bd2, map_gd, map_lt, map_ite, map_sm, bd1_map, bd2_map, sw_mk]
set_option maxHeartbeats 1000000 in
theorem k_X12_pass_b41 (a1 : Int32) (Y : Mem) (s0 : Int32) : X12_pass_b41 a1 (sv v Y) s0 = Option.map (sw v) (X12_pass_b41 a1 Y s0) := by
  simp only [X12_pass_b41, k_X12_pass_b42, sv_rd, sv_up, lt_sv, map_bd1, map_bd2, map_gd, map_lt, map_ite, map_sm, bd1_map, bd2_map, sw_mk]
set_option maxHeartbeats 1000000 in
theorem k_X12_pass_b19 (a1 : Int32) (Y : Mem) (l2 : Int32) (s0 : Int32) : X12_pass_b19 a1 (sv v Y) l2 s0 = Option.map (sw v) (X12_pass_b19 a1 Y l2 s0) := by
  simp only [X12_pass_b19, k_X12_pass_b41, k_X12_pass_b42, sv_rd, sv_up, lt_sv, map_bd1, map_bd2, map_gd, map_lt, map_ite, map_sm, bd1_map, bd2_map, sw_mk]
set_option maxHeartbeats 1000000 in
theorem k_X12_pass (Y : Mem) (a1 : Int32) : X12_pass (sv v Y) a1 = Option.map (sw v) (X12_pass Y a1) := by
  simp only [X12_pass, k_X12_in, k_X12_pass_b19, sv_rd, sv_up, lt_sv, map_bd1, map_bd2, map_gd, map_lt, map_ite, map_sm, bd1_map, bd2_map, sw_mk]
set_option maxHeartbeats 1000000 in
theorem k_X12_pathLength_b14 (a1 : Int32) (Y : Mem) (s0 : Int32) : X12_pathLength_b14 a1 (sv v Y) s0 = Option.map (sw v) (X12_pathLength_b14 a1 Y s0) := by
  simp only [X12_pathLength_b14, k_X12_fails, k_X12_computePaths, sv_rd, sv_up, lt_sv, map_bd1, map_bd2, map_gd, map_lt, map_ite, map_sm, bd1_map, bd2_map, sw_mk]
set_option maxHeartbeats 1000000 in
theorem k_X12_pathLength (Y : Mem) (a1 : Int32) : X12_pathLength (sv v Y) a1 = Option.map (sw v) (X12_pathLength Y a1) := by
  simp only [X12_pathLength, k_X12_isStep, k_X12_pathLength_b14, sv_rd, sv_up, lt_sv, map_bd1, map_bd2, map_gd, map_lt, map_ite, map_sm, bd1_map, bd2_map, sw_mk]
set_option maxHeartbeats 1000000 in
theorem k_X12_predecessor_b14 (a1 : Int32) (a2 : Int32) (Y : Mem) (s0 : Int32) : X12_predecessor_b14 a1 a2 (sv v Y) s0 = Option.map (sw v) (X12_predecessor_b14 a1 a2 Y s0) := by
  simp only [X12_predecessor_b14, k_X12_fails, k_X12_of, k_X12_in, sv_rd, sv_up, lt_sv, map_bd1, map_bd2, map_gd, map_lt, map_ite, map_sm, bd1_map, bd2_map, sw_mk]
set_option maxHeartbeats 1000000 in
theorem k_X12_predecessor (Y : Mem) (a1 : Int32) (a2 : Int32) : X12_predecessor (sv v Y) a1 a2 = Option.map (sw v) (X12_predecessor Y a1 a2) := by
  simp only [X12_predecessor, k_X12_isStep, k_X12_predecessor_b14, sv_rd, sv_up, lt_sv, map_bd1, map_bd2, map_gd, map_lt, map_ite, map_sm, bd1_map, bd2_map, sw_mk]
set_option maxHeartbeats 1000000 in
theorem k_X12_put (Y : Mem) (a1 : Int32) : X12_put (sv v Y) a1 = Option.map (sv v) (X12_put Y a1) := by
  simp only [X12_put, sv_rd, sv_up, lt_sv, map_bd1, map_bd2, map_gd, map_lt, map_ite, map_sm, bd1_map, bd2_map, sw_mk]
set_option maxHeartbeats 1000000 in
theorem k_X12_putMark_b70 (a1 : Int32) (Y : Mem) : X12_putMark_b70 a1 (sv v Y) = Option.map (sv v) (X12_putMark_b70 a1 Y) := by
  simp only [X12_putMark_b70, k_X12_of, k_X12_put, sv_rd, sv_up, lt_sv, map_bd1, map_bd2, map_gd, map_lt, map_ite, map_sm, bd1_map, bd2_map, sw_mk]
set_option maxHeartbeats 1000000 in
theorem k_X12_putMark (Y : Mem) (a1 : Int32) : X12_putMark (sv v Y) a1 = Option.map (sv v) (X12_putMark Y a1) := by
  simp only [X12_putMark, k_X12_of, k_X12_put, k_X12_putMark_b70, sv_rd, sv_up, lt_sv, map_bd1, map_bd2, map_gd, map_lt, map_ite, map_sm, bd1_map, bd2_map, sw_mk]
set_option maxHeartbeats 1000000 in
theorem k_X12_readyStep (Y : Mem) (a1 : Int32) : X12_readyStep (sv v Y) a1 = Option.map (sw v) (X12_readyStep Y a1) := by
  simp only [X12_readyStep, k_X12_queueReady, k_X12_in, sv_rd, sv_up, lt_sv, map_bd1, map_bd2, map_gd, map_lt, map_ite, map_sm, bd1_map, bd2_map, sw_mk]
set_option maxHeartbeats 1000000 in
theorem k_X12_redo_b33 (a1 : Int32) (Y : Mem) (s0 : Int32) (s1 : Int32) : X12_redo_b33 a1 (sv v Y) s0 s1 = Option.map (sw v) (X12_redo_b33 a1 Y s0 s1) := by
  simp only [X12_redo_b33, k_X12_fails, k_X12_remember, k_X12_redoIt, sv_rd, sv_up, lt_sv, map_bd1, map_bd2, map_gd, map_lt, map_ite, map_sm, bd1_map, bd2_map, sw_mk]
set_option maxHeartbeats 1000000 in
theorem k_X12_redo_b32 (a1 : Int32) (Y : Mem) (s0 : Int32) : X12_redo_b32 a1 (sv v Y) s0 = Option.map (sw v) (X12_redo_b32 a1 Y s0) := by
  simp only [X12_redo_b32, k_X12_redo_b33, sv_rd, sv_up, lt_sv, map_bd1, map_bd2, map_gd, map_lt, map_ite, map_sm, bd1_map, bd2_map, sw_mk]
set_option maxHeartbeats 1000000 in
theorem k_X12_redo_b16 (a1 : Int32) (Y : Mem) (l2 : Int32) (s0 : Int32) : X12_redo_b16 a1 (sv v Y) l2 s0 = Option.map (sw v) (X12_redo_b16 a1 Y l2 s0) := by
  simp only [X12_redo_b16, k_X12_redo_b32, k_X12_canRedo, k_X12_redo_b33, sv_rd, sv_up, lt_sv, map_bd1, map_bd2, map_gd, map_lt, map_ite, map_sm, bd1_map, bd2_map, sw_mk]
set_option maxHeartbeats 1000000 in
theorem k_X12_redo (Y : Mem) (a1 : Int32) : X12_redo (sv v Y) a1 = Option.map (sw v) (X12_redo Y a1) := by
  simp only [X12_redo, k_X12_isStep, k_X12_redo_b16, sv_rd, sv_up, lt_sv, map_bd1, map_bd2, map_gd, map_lt, map_ite, map_sm, bd1_map, bd2_map, sw_mk]
set_option maxHeartbeats 1000000 in
theorem k_X12_remaining (Y : Mem) (a1 : Int32) : X12_remaining (sv v Y) a1 = Option.map (sw v) (X12_remaining Y a1) := by
  simp only [X12_remaining, k_X12_field, sv_rd, sv_up, lt_sv, map_bd1, map_bd2, map_gd, map_lt, map_ite, map_sm, bd1_map, bd2_map, sw_mk]
set_option maxHeartbeats 1000000 in
theorem k_X12_restore_b35 (a1 : Int32) (Y : Mem) (s0 : Int32) (s1 : Int32) : X12_restore_b35 a1 (sv v Y) s0 s1 = Option.map (sw v) (X12_restore_b35 a1 Y s0 s1) := by
  simp only [X12_restore_b35, k_X12_fails, k_X12_copyBlock, sv_rd, sv_up, lt_sv, map_bd1, map_bd2, map_gd, map_lt, map_ite, map_sm, bd1_map, bd2_map, sw_mk]
set_option maxHeartbeats 1000000 in
theorem k_X12_restore_b34 (a1 : Int32) (Y : Mem) (s0 : Int32) : X12_restore_b34 a1 (sv v Y) s0 = Option.map (sw v) (X12_restore_b34 a1 Y s0) := by
  simp only [X12_restore_b34, k_X12_restore_b35, sv_rd, sv_up, lt_sv, map_bd1, map_bd2, map_gd, map_lt, map_ite, map_sm, bd1_map, bd2_map, sw_mk]
set_option maxHeartbeats 1000000 in
theorem k_X12_restore_b17 (a1 : Int32) (Y : Mem) (l2 : Int32) (s0 : Int32) : X12_restore_b17 a1 (sv v Y) l2 s0 = Option.map (sw v) (X12_restore_b17 a1 Y l2 s0) := by
  simp only [X12_restore_b17, k_X12_restore_b34, k_X12_restore_b35, sv_rd, sv_up, lt_sv, map_bd1, map_bd2, map_gd, map_lt, map_ite, map_sm, bd1_map, bd2_map, sw_mk]
set_option maxHeartbeats 1000000 in
theorem k_X12_restore (Y : Mem) (a1 : Int32) : X12_restore (sv v Y) a1 = Option.map (sw v) (X12_restore Y a1) := by
  simp only [X12_restore, k_X12_in, k_X12_restore_b17, sv_rd, sv_up, lt_sv, map_bd1, map_bd2, map_gd, map_lt, map_ite, map_sm, bd1_map, bd2_map, sw_mk]
set_option maxHeartbeats 1000000 in
theorem k_X12_rootBlocker_b28 (a1 : Int32) : ∀ (n : Nat) (e1 : Mem) (e2 : Int32) (e3 : Int32), X12_rootBlocker_b28 a1 n (sv v e1) e2 e3 = Option.map (sw v) (X12_rootBlocker_b28 a1 n e1 e2 e3) := by
  intro n
  induction n with
  | zero => intros; rfl
  | succ n ih =>
    intro e1 e2 e3
    simp only [X12_rootBlocker_b28, k_X12_reasonFor, k_X12_firstOpen, ih, sv_rd, sv_up, lt_sv, map_bd1, map_bd2, map_gd, map_lt, map_ite, map_sm, bd1_map, bd2_map, sw_mk]
set_option maxHeartbeats 1000000 in
theorem k_X12_rootBlocker_b14 (a1 : Int32) (Y : Mem) (s0 : Int32) : X12_rootBlocker_b14 a1 (sv v Y) s0 = Option.map (sw v) (X12_rootBlocker_b14 a1 Y s0) := by
  simp only [X12_rootBlocker_b14, k_X12_fails, k_X12_rootBlocker_b28, sv_rd, sv_up, lt_sv, map_bd1, map_bd2, map_gd, map_lt, map_ite, map_sm, bd1_map, bd2_map, sw_mk]
set_option maxHeartbeats 1000000 in
theorem k_X12_rootBlocker (Y : Mem) (a1 : Int32) : X12_rootBlocker (sv v Y) a1 = Option.map (sw v) (X12_rootBlocker Y a1) := by
  simp only [X12_rootBlocker, k_X12_isStep, k_X12_rootBlocker_b14, sv_rd, sv_up, lt_sv, map_bd1, map_bd2, map_gd, map_lt, map_ite, map_sm, bd1_map, bd2_map, sw_mk]
set_option maxHeartbeats 1000000 in
theorem k_X12_runScript_b42  : ∀ (n : Nat) (e1 : Mem) (e2 : Int32) (e3 : Int32), X12_runScript_b42 n (sv v e1) e2 e3 = Option.map (sw v) (X12_runScript_b42 n e1 e2 e3) := by
  intro n
  induction n with
  | zero => intros; rfl
  | succ n ih =>
    intro e1 e2 e3
    simp only [X12_runScript_b42, k_X12_canDo, k_X12_doIt, ih, sv_rd, sv_up, lt_sv, map_bd1, map_bd2, map_gd, map_lt, map_ite, map_sm, bd1_map, bd2_map, sw_mk]
set_option maxHeartbeats 1000000 in
theorem k_X12_runScript_b25 (Y : Mem) (l1 : Int32) (s0 : Int32) : X12_runScript_b25 (sv v Y) l1 s0 = Option.map (sw v) (X12_runScript_b25 Y l1 s0) := by
  simp only [X12_runScript_b25, k_X12_fails, k_X12_remember, k_X12_runScript_b42, sv_rd, sv_up, lt_sv, map_bd1, map_bd2, map_gd, map_lt, map_ite, map_sm, bd1_map, bd2_map, sw_mk]
set_option maxHeartbeats 1000000 in
theorem k_X12_runScript (Y : Mem) : X12_runScript (sv v Y) = Option.map (sw v) (X12_runScript Y) := by
  simp only [X12_runScript, k_X12_begin, k_X12_parseScript, k_X12_runScript_b25, sv_rd, sv_up, lt_sv, map_bd1, map_bd2, map_gd, map_lt, map_ite, map_sm, bd1_map, bd2_map, sw_mk]
set_option maxHeartbeats 1000000 in
theorem k_X12_salt (Y : Mem) : X12_salt (sv v Y) = Option.map (sw v) (X12_salt Y) := by
  simp only [X12_salt, k_X12_plain, sv_rd, sv_up, lt_sv, map_bd1, map_bd2, map_gd, map_lt, map_ite, map_sm, bd1_map, bd2_map, sw_mk]
set_option maxHeartbeats 1000000 in
theorem k_X12_saltNeeded_b14  : ∀ (n : Nat) (e1 : Mem) (e2 : Int32) (e3 : Int32), X12_saltNeeded_b14 n (sv v e1) e2 e3 = Option.map (sw v) (X12_saltNeeded_b14 n e1 e2 e3) := by
  intro n
  induction n with
  | zero => intros; rfl
  | succ n ih =>
    intro e1 e2 e3
    simp only [X12_saltNeeded_b14, k_X12_of, ih, sv_rd, sv_up, lt_sv, map_bd1, map_bd2, map_gd, map_lt, map_ite, map_sm, bd1_map, bd2_map, sw_mk]
set_option maxHeartbeats 1000000 in
theorem k_X12_saltNeeded (Y : Mem) : X12_saltNeeded (sv v Y) = Option.map (sw v) (X12_saltNeeded Y) := by
  simp only [X12_saltNeeded, k_X12_saltNeeded_b14, sv_rd, sv_up, lt_sv, map_bd1, map_bd2, map_gd, map_lt, map_ite, map_sm, bd1_map, bd2_map, sw_mk]
set_option maxHeartbeats 1000000 in
theorem k_X12_save_b15 (a1 : Int32) (Y : Mem) (s0 : Int32) : X12_save_b15 a1 (sv v Y) s0 = Option.map (sw v) (X12_save_b15 a1 Y s0) := by
  simp only [X12_save_b15, k_X12_fails, k_X12_copyBlock, sv_rd, sv_up, lt_sv, map_bd1, map_bd2, map_gd, map_lt, map_ite, map_sm, bd1_map, bd2_map, sw_mk]
set_option maxHeartbeats 1000000 in
theorem k_X12_save (Y : Mem) (a1 : Int32) : X12_save (sv v Y) a1 = Option.map (sw v) (X12_save Y a1) := by
  simp only [X12_save, k_X12_in, k_X12_save_b15, sv_rd, sv_up, lt_sv, map_bd1, map_bd2, map_gd, map_lt, map_ite, map_sm, bd1_map, bd2_map, sw_mk]
set_option maxHeartbeats 1000000 in
theorem k_X12_serve_b13 (Y : Mem) (s0 : Int32) : X12_serve_b13 (sv v Y) s0 = Option.map (sw v) (X12_serve_b13 Y s0) := by
  simp only [X12_serve_b13, k_X12_fails, k_X12_remember, k_X12_tasteNow, sv_rd, sv_up, lt_sv, map_bd1, map_bd2, map_gd, map_lt, map_ite, map_sm, bd1_map, bd2_map, sw_mk]
set_option maxHeartbeats 1000000 in
theorem k_X12_serve (Y : Mem) : X12_serve (sv v Y) = Option.map (sw v) (X12_serve Y) := by
  simp only [X12_serve, k_X12_servingReason, k_X12_serve_b13, sv_rd, sv_up, lt_sv, map_bd1, map_bd2, map_gd, map_lt, map_ite, map_sm, bd1_map, bd2_map, sw_mk]
set_option maxHeartbeats 1000000 in
theorem k_X12_setCooks_b15 (a1 : Int32) (Y : Mem) (s0 : Int32) : X12_setCooks_b15 a1 (sv v Y) s0 = Option.map (sw v) (X12_setCooks_b15 a1 Y s0) := by
  simp only [X12_setCooks_b15, k_X12_fails, k_X12_remember, sv_rd, sv_up, lt_sv, map_bd1, map_bd2, map_gd, map_lt, map_ite, map_sm, bd1_map, bd2_map, sw_mk]
set_option maxHeartbeats 1000000 in
theorem k_X12_setCooks (Y : Mem) (a1 : Int32) : X12_setCooks (sv v Y) a1 = Option.map (sw v) (X12_setCooks Y a1) := by
  simp only [X12_setCooks, k_X12_in, k_X12_setCooks_b15, sv_rd, sv_up, lt_sv, map_bd1, map_bd2, map_gd, map_lt, map_ite, map_sm, bd1_map, bd2_map, sw_mk]
set_option maxHeartbeats 1000000 in
theorem k_X12_setDuration_b29 (a1 : Int32) (a2 : Int32) (Y : Mem) (s0 : Int32) (s1 : Int32) : X12_setDuration_b29 a1 a2 (sv v Y) s0 s1 = Option.map (sw v) (X12_setDuration_b29 a1 a2 Y s0 s1) := by
  simp only [X12_setDuration_b29, k_X12_fails, k_X12_remember, k_X12_of, k_X12_set, sv_rd, sv_up, lt_sv, map_bd1, map_bd2, map_gd, map_lt, map_ite, map_sm, bd1_map, bd2_map, sw_mk]
set_option maxHeartbeats 1000000 in
theorem k_X12_setDuration_b14 (a1 : Int32) (a2 : Int32) (Y : Mem) (s0 : Int32) : X12_setDuration_b14 a1 a2 (sv v Y) s0 = Option.map (sw v) (X12_setDuration_b14 a1 a2 Y s0) := by
  simp only [X12_setDuration_b14, k_X12_in, k_X12_setDuration_b29, sv_rd, sv_up, lt_sv, map_bd1, map_bd2, map_gd, map_lt, map_ite, map_sm, bd1_map, bd2_map, sw_mk]
set_option maxHeartbeats 1000000 in
theorem k_X12_setDuration (Y : Mem) (a1 : Int32) (a2 : Int32) : X12_setDuration (sv v Y) a1 a2 = Option.map (sw v) (X12_setDuration Y a1 a2) := by
  simp only [X12_setDuration, k_X12_isStep, k_X12_setDuration_b14, sv_rd, sv_up, lt_sv, map_bd1, map_bd2, map_gd, map_lt, map_ite, map_sm, bd1_map, bd2_map, sw_mk]
set_option maxHeartbeats 1000000 in
theorem k_X12_slack_b14 (a1 : Int32) (Y : Mem) (s0 : Int32) : X12_slack_b14 a1 (sv v Y) s0 = Option.map (sw v) (X12_slack_b14 a1 Y s0) := by
  simp only [X12_slack_b14, k_X12_fails, k_X12_computePaths, k_X12_computeHeads, k_X12_longestPath, sv_rd, sv_up, lt_sv, map_bd1, map_bd2, map_gd, map_lt, map_ite, map_sm, bd1_map, bd2_map, sw_mk]
set_option maxHeartbeats 1000000 in
theorem k_X12_slack (Y : Mem) (a1 : Int32) : X12_slack (sv v Y) a1 = Option.map (sw v) (X12_slack Y a1) := by
  simp only [X12_slack, k_X12_isStep, k_X12_slack_b14, sv_rd, sv_up, lt_sv, map_bd1, map_bd2, map_gd, map_lt, map_ite, map_sm, bd1_map, bd2_map, sw_mk]
set_option maxHeartbeats 1000000 in
theorem k_X12_starts (Y : Mem) : X12_starts (sv v Y) = Option.map (sw v) (X12_starts Y) := by
  simp only [X12_starts, k_X12_plain, sv_rd, sv_up, lt_sv, map_bd1, map_bd2, map_gd, map_lt, map_ite, map_sm, bd1_map, bd2_map, sw_mk]
set_option maxHeartbeats 1000000 in
theorem k_X12_startsOf (Y : Mem) (a1 : Int32) : X12_startsOf (sv v Y) a1 = Option.map (sw v) (X12_startsOf Y a1) := by
  simp only [X12_startsOf, k_X12_field, sv_rd, sv_up, lt_sv, map_bd1, map_bd2, map_gd, map_lt, map_ite, map_sm, bd1_map, bd2_map, sw_mk]
set_option maxHeartbeats 1000000 in
theorem k_X12_status (Y : Mem) (a1 : Int32) : X12_status (sv v Y) a1 = Option.map (sw v) (X12_status Y a1) := by
  simp only [X12_status, k_X12_field, sv_rd, sv_up, lt_sv, map_bd1, map_bd2, map_gd, map_lt, map_ite, map_sm, bd1_map, bd2_map, sw_mk]
set_option maxHeartbeats 1000000 in
theorem k_X12_statusAfter_b30 (a1 : Int32) (a2 : Int32) (Y : Mem) (s0 : Int32) (s1 : Int32) : X12_statusAfter_b30 a1 a2 (sv v Y) s0 s1 = Option.map (sw v) (X12_statusAfter_b30 a1 a2 Y s0 s1) := by
  simp only [X12_statusAfter_b30, k_X12_fails, k_X12_copyBlock, k_X12_passMinutes, k_X12_of, sv_rd, sv_up, lt_sv, map_bd1, map_bd2, map_gd, map_lt, map_ite, map_sm, bd1_map, bd2_map, sw_mk]
set_option maxHeartbeats 1000000 in
theorem k_X12_statusAfter_b14 (a1 : Int32) (a2 : Int32) (Y : Mem) (s0 : Int32) : X12_statusAfter_b14 a1 a2 (sv v Y) s0 = Option.map (sw v) (X12_statusAfter_b14 a1 a2 Y s0) := by
  simp only [X12_statusAfter_b14, k_X12_in, k_X12_statusAfter_b30, sv_rd, sv_up, lt_sv, map_bd1, map_bd2, map_gd, map_lt, map_ite, map_sm, bd1_map, bd2_map, sw_mk]
set_option maxHeartbeats 1000000 in
theorem k_X12_statusAfter (Y : Mem) (a1 : Int32) (a2 : Int32) : X12_statusAfter (sv v Y) a1 a2 = Option.map (sw v) (X12_statusAfter Y a1 a2) := by
  simp only [X12_statusAfter, k_X12_isStep, k_X12_statusAfter_b14, sv_rd, sv_up, lt_sv, map_bd1, map_bd2, map_gd, map_lt, map_ite, map_sm, bd1_map, bd2_map, sw_mk]
set_option maxHeartbeats 1000000 in
theorem k_X12_stepCount (Y : Mem) : X12_stepCount (sv v Y) = Option.map (sw v) (X12_stepCount Y) := by
  simp only [X12_stepCount, k_X12_plain, sv_rd, sv_up, lt_sv, map_bd1, map_bd2, map_gd, map_lt, map_ite, map_sm, bd1_map, bd2_map, sw_mk]
set_option maxHeartbeats 1000000 in
theorem k_X12_stepTaste (Y : Mem) (a1 : Int32) : X12_stepTaste (sv v Y) a1 = Option.map (sw v) (X12_stepTaste Y a1) := by
  simp only [X12_stepTaste, k_X12_field, sv_rd, sv_up, lt_sv, map_bd1, map_bd2, map_gd, map_lt, map_ite, map_sm, bd1_map, bd2_map, sw_mk]
set_option maxHeartbeats 1000000 in
theorem k_X12_stop_b36 (a1 : Int32) (Y : Mem) (s0 : Int32) (s1 : Int32) : X12_stop_b36 a1 (sv v Y) s0 s1 = Option.map (sw v) (X12_stop_b36 a1 Y s0 s1) := by
  simp only [X12_stop_b36, k_X12_fails, k_X12_remember, k_X12_stopIt, sv_rd, sv_up, lt_sv, map_bd1, map_bd2, map_gd, map_lt, map_ite, map_sm, bd1_map, bd2_map, sw_mk]
set_option maxHeartbeats 1000000 in
theorem k_X12_stop_b35 (a1 : Int32) (Y : Mem) (s0 : Int32) : X12_stop_b35 a1 (sv v Y) s0 = Option.map (sw v) (X12_stop_b35 a1 Y s0) := by
  simp only [X12_stop_b35, k_X12_stop_b36, sv_rd, sv_up, lt_sv, map_bd1, map_bd2, map_gd, map_lt, map_ite, map_sm, bd1_map, bd2_map, sw_mk]
set_option maxHeartbeats 1000000 in
theorem k_X12_stop_b16 (a1 : Int32) (Y : Mem) (l2 : Int32) (s0 : Int32) : X12_stop_b16 a1 (sv v Y) l2 s0 = Option.map (sw v) (X12_stop_b16 a1 Y l2 s0) := by
  simp only [X12_stop_b16, k_X12_stop_b35, k_X12_of, k_X12_stop_b36, sv_rd, sv_up, lt_sv, map_bd1, map_bd2, map_gd, map_lt, map_ite, map_sm, bd1_map, bd2_map, sw_mk]
set_option maxHeartbeats 1000000 in
theorem k_X12_stop (Y : Mem) (a1 : Int32) : X12_stop (sv v Y) a1 = Option.map (sw v) (X12_stop Y a1) := by
  simp only [X12_stop, k_X12_isStep, k_X12_stop_b16, sv_rd, sv_up, lt_sv, map_bd1, map_bd2, map_gd, map_lt, map_ite, map_sm, bd1_map, bd2_map, sw_mk]
set_option maxHeartbeats 1000000 in
theorem k_X12_successors_b32 {k6 k6_ : Int32 → Int32 → Option (Int32)} (hk6 : ∀ (x0 : Int32) (x1 : Int32), k6_ x0 x1 = (k6 x0 x1)) (Y : Mem) (a1 : Int32) (l3 : Int32) (s0 : Int32) (s1 : Int32) : X12_successors_b32 (sv v Y) a1 k6_ l3 s0 s1 = (X12_successors_b32 Y a1 k6 l3 s0 s1) := by
  simp only [X12_successors_b32, hk6, sv_rd, sv_up, lt_sv, map_bd1, map_bd2, map_gd, map_lt, map_ite, map_sm, bd1_map, bd2_map, sw_mk]
set_option maxHeartbeats 1000000 in
theorem k_X12_successors_b6 (Y : Mem) (a1 : Int32) : ∀ (n : Nat) (e1 : Int32) (e2 : Int32), X12_successors_b6 (sv v Y) a1 n e1 e2 = (X12_successors_b6 Y a1 n e1 e2) := by
  intro n
  induction n with
  | zero => intros; rfl
  | succ n ih =>
    intro e1 e2
    simp only [X12_successors_b6, k_X12_isPredecessor, k_X12_successors_b32 ih, ih, sv_rd, sv_up, lt_sv, map_bd1, map_bd2, map_gd, map_lt, map_ite, map_sm, bd1_map, bd2_map, sw_mk]
set_option maxHeartbeats 1000000 in
theorem k_X12_successors (Y : Mem) (a1 : Int32) : X12_successors (sv v Y) a1 = (X12_successors Y a1) := by
  simp only [X12_successors, k_X12_successors_b6, sv_rd, sv_up, lt_sv, map_bd1, map_bd2, map_gd, map_lt, map_ite, map_sm, bd1_map, bd2_map, sw_mk]
set_option maxHeartbeats 1000000 in
theorem k_X12_successorCount_b14 (a1 : Int32) (Y : Mem) (s0 : Int32) : X12_successorCount_b14 a1 (sv v Y) s0 = Option.map (sw v) (X12_successorCount_b14 a1 Y s0) := by
  simp only [X12_successorCount_b14, k_X12_fails, k_X12_successors, sv_rd, sv_up, lt_sv, map_bd1, map_bd2, map_gd, map_lt, map_ite, map_sm, bd1_map, bd2_map, sw_mk]
set_option maxHeartbeats 1000000 in
theorem k_X12_successorCount (Y : Mem) (a1 : Int32) : X12_successorCount (sv v Y) a1 = Option.map (sw v) (X12_successorCount Y a1) := by
  simp only [X12_successorCount, k_X12_isStep, k_X12_successorCount_b14, sv_rd, sv_up, lt_sv, map_bd1, map_bd2, map_gd, map_lt, map_ite, map_sm, bd1_map, bd2_map, sw_mk]
set_option maxHeartbeats 1000000 in
theorem k_X12_taste (Y : Mem) : X12_taste (sv v Y) = Option.map (sw v) (X12_taste Y) := by
  simp only [X12_taste, k_X12_tasteNow, k_X12_plain, sv_rd, sv_up, lt_sv, map_bd1, map_bd2, map_gd, map_lt, map_ite, map_sm, bd1_map, bd2_map, sw_mk]
set_option maxHeartbeats 1000000 in
theorem k_X12_thrown (Y : Mem) : X12_thrown (sv v Y) = (X12_thrown Y) := by
  simp only [X12_thrown, sv_rd, sv_up, lt_sv, map_bd1, map_bd2, map_gd, map_lt, map_ite, map_sm, bd1_map, bd2_map, sw_mk]
set_option maxHeartbeats 1000000 in
theorem k_X12_truncate_b18 (a1 : Int32) (Y : Mem) (s0 : Int32) : X12_truncate_b18 a1 (sv v Y) s0 = Option.map (sw v) (X12_truncate_b18 a1 Y s0) := by
  simp only [X12_truncate_b18, k_X12_fails, sv_rd, sv_up, lt_sv, map_bd1, map_bd2, map_gd, map_lt, map_ite, map_sm, bd1_map, bd2_map, sw_mk]
set_option maxHeartbeats 1000000 in
theorem k_X12_truncate (Y : Mem) (a1 : Int32) : X12_truncate (sv v Y) a1 = Option.map (sw v) (X12_truncate Y a1) := by
  simp only [X12_truncate, k_X12_in, k_X12_truncate_b18, sv_rd, sv_up, lt_sv, map_bd1, map_bd2, map_gd, map_lt, map_ite, map_sm, bd1_map, bd2_map, sw_mk]
set_option maxHeartbeats 1000000 in
theorem k_X12_undo_b13 (Y : Mem) (s0 : Int32) : X12_undo_b13 (sv v Y) s0 = Option.map (sw v) (X12_undo_b13 Y s0) := by
  simp only [X12_undo_b13, k_X12_fails, k_X12_copyBlock, sv_rd, sv_up, lt_sv, map_bd1, map_bd2, map_gd, map_lt, map_ite, map_sm, bd1_map, bd2_map, sw_mk]
set_option maxHeartbeats 1000000 in
theorem k_X12_undo (Y : Mem) : X12_undo (sv v Y) = Option.map (sw v) (X12_undo Y) := by
  simp only [X12_undo, k_X12_undo_b13, sv_rd, sv_up, lt_sv, map_bd1, map_bd2, map_gd, map_lt, map_ite, map_sm, bd1_map, bd2_map, sw_mk]
set_option maxHeartbeats 1000000 in
theorem k_X12_whyNotRunning_b14 (a1 : Int32) (Y : Mem) (s0 : Int32) : X12_whyNotRunning_b14 a1 (sv v Y) s0 = Option.map (sw v) (X12_whyNotRunning_b14 a1 Y s0) := by
  simp only [X12_whyNotRunning_b14, k_X12_fails, k_X12_reasonFor, sv_rd, sv_up, lt_sv, map_bd1, map_bd2, map_gd, map_lt, map_ite, map_sm, bd1_map, bd2_map, sw_mk]
set_option maxHeartbeats 1000000 in
theorem k_X12_whyNotRunning (Y : Mem) (a1 : Int32) : X12_whyNotRunning (sv v Y) a1 = Option.map (sw v) (X12_whyNotRunning Y a1) := by
  simp only [X12_whyNotRunning, k_X12_isStep, k_X12_whyNotRunning_b14, sv_rd, sv_up, lt_sv, map_bd1, map_bd2, map_gd, map_lt, map_ite, map_sm, bd1_map, bd2_map, sw_mk]
set_option maxHeartbeats 1000000 in
theorem k_X12_whyNotServed (Y : Mem) : X12_whyNotServed (sv v Y) = Option.map (sw v) (X12_whyNotServed Y) := by
  simp only [X12_whyNotServed, k_X12_servingReason, sv_rd, sv_up, lt_sv, map_bd1, map_bd2, map_gd, map_lt, map_ite, map_sm, bd1_map, bd2_map, sw_mk]
set_option maxHeartbeats 1000000 in
theorem k_X12_writeSummary_b35 {k12 k12_ : Mem → Int32 → Option (Int32 × Mem)} (hk12 : ∀ (x0 : Mem) (x1 : Int32), k12_ (sv v x0) x1 = Option.map (sw v) (k12 x0 x1)) : ∀ (n : Nat) (e1 : Mem) (e2 : Int32) (e3 : Int32), X12_writeSummary_b35 k12_ n (sv v e1) e2 e3 = Option.map (sw v) (X12_writeSummary_b35 k12 n e1 e2 e3) := by
  intro n
  induction n with
  | zero => intros; rfl
  | succ n ih =>
    intro e1 e2 e3
    simp only [X12_writeSummary_b35, k_X12_of, k_X12_putMark, k_X12_put, hk12, ih, sv_rd, sv_up, lt_sv, map_bd1, map_bd2, map_gd, map_lt, map_ite, map_sm, bd1_map, bd2_map, sw_mk]
set_option maxHeartbeats 1000000 in
theorem k_X12_writeSummary_b33 {k12 k12_ : Mem → Int32 → Option (Int32 × Mem)} (hk12 : ∀ (x0 : Mem) (x1 : Int32), k12_ (sv v x0) x1 = Option.map (sw v) (k12 x0 x1)) (Y : Mem) (l1 : Int32) : X12_writeSummary_b33 k12_ (sv v Y) l1 = Option.map (sw v) (X12_writeSummary_b33 k12 Y l1) := by
  simp only [X12_writeSummary_b33, hk12, k_X12_writeSummary_b35 hk12, sv_rd, sv_up, lt_sv, map_bd1, map_bd2, map_gd, map_lt, map_ite, map_sm, bd1_map, bd2_map, sw_mk]
set_option maxHeartbeats 1000000 in
theorem k_X12_writeSummary_b12  : ∀ (n : Nat) (e1 : Mem) (e2 : Int32), X12_writeSummary_b12 n (sv v e1) e2 = Option.map (sw v) (X12_writeSummary_b12 n e1 e2) := by
  intro n
  induction n with
  | zero => intros; rfl
  | succ n ih =>
    intro e1 e2
    simp only [X12_writeSummary_b12, k_X12_put, k_X12_writeSummary_b33 ih, ih, sv_rd, sv_up, lt_sv, map_bd1, map_bd2, map_gd, map_lt, map_ite, map_sm, bd1_map, bd2_map, sw_mk]
set_option maxHeartbeats 1000000 in
theorem k_X12_writeSummary (Y : Mem) : X12_writeSummary (sv v Y) = Option.map (sw v) (X12_writeSummary Y) := by
  simp only [X12_writeSummary, k_X12_writeSummary_b12, sv_rd, sv_up, lt_sv, map_bd1, map_bd2, map_gd, map_lt, map_ite, map_sm, bd1_map, bd2_map, sw_mk]
end
