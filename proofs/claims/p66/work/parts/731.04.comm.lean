/-! PHASE 3: THE REFERENCE DOES NOT LOOK AT THE LAW'S OWN CELL -/
section
variable {v : Mem}
set_option maxHeartbeats 1000000 in
theorem k_X12_computeHeads (Y : Mem) : M12_computeHeads (sv v Y) = Option.map (sv v) (M12_computeHeads Y) := by
  simp only [M12_computeHeads, k_X12_computeHeads_b2, sv_rd, sv_up, lt_sv, map_bd1, map_bd2, map_gd, map_lt, map_ite, map_sm, bd1_map, bd2_map, sw_mk]
set_option maxHeartbeats 1000000 in
theorem k_X12_cookMinutes (Y : Mem) : M12_cookMinutes (sv v Y) = Option.map (sw v) (M12_cookMinutes Y) := by
  simp only [M12_cookMinutes, k_X12_plain, sv_rd, sv_up, lt_sv, map_bd1, map_bd2, map_gd, map_lt, map_ite, map_sm, bd1_map, bd2_map, sw_mk]
set_option maxHeartbeats 1000000 in
theorem k_X12_cooks (Y : Mem) : M12_cooks (sv v Y) = Option.map (sw v) (M12_cooks Y) := by
  simp only [M12_cooks, k_X12_plain, sv_rd, sv_up, lt_sv, map_bd1, map_bd2, map_gd, map_lt, map_ite, map_sm, bd1_map, bd2_map, sw_mk]
set_option maxHeartbeats 1000000 in
theorem k_X12_countWithStatus_b15 (a1 : Int32) (Y : Mem) (s0 : Int32) : M12_countWithStatus_b15 a1 (sv v Y) s0 = Option.map (sw v) (M12_countWithStatus_b15 a1 Y s0) := by
  simp only [M12_countWithStatus_b15, k_X12_fails, k_X12_withStatus, sv_rd, sv_up, lt_sv, map_bd1, map_bd2, map_gd, map_lt, map_ite, map_sm, bd1_map, bd2_map, sw_mk]
set_option maxHeartbeats 1000000 in
theorem k_X12_countWithStatus (Y : Mem) (a1 : Int32) : M12_countWithStatus (sv v Y) a1 = Option.map (sw v) (M12_countWithStatus Y a1) := by
  simp only [M12_countWithStatus, k_X12_in, k_X12_countWithStatus_b15, sv_rd, sv_up, lt_sv, map_bd1, map_bd2, map_gd, map_lt, map_ite, map_sm, bd1_map, bd2_map, sw_mk]
set_option maxHeartbeats 1000000 in
theorem k_X12_criticalStep_b89 {k24 k24_ : Mem → Int32 → Int32 → Int32 → Int32 → Option (Int32 × Mem)} (hk24 : ∀ (x0 : Mem) (x1 : Int32) (x2 : Int32) (x3 : Int32) (x4 : Int32), k24_ (sv v x0) x1 x2 x3 x4 = Option.map (sw v) (k24 x0 x1 x2 x3 x4)) (a1 : Int32) (Y : Mem) (l5 : Int32) (l4 : Int32) (l3 : Int32) (l2 : Int32) : M12_criticalStep_b89 a1 k24_ (sv v Y) l5 l4 l3 l2 = Option.map (sw v) (M12_criticalStep_b89 a1 k24 Y l5 l4 l3 l2) := by
  simp only [M12_criticalStep_b89, hk24, sv_rd, sv_up, lt_sv, map_bd1, map_bd2, map_gd, map_lt, map_ite, map_sm, bd1_map, bd2_map, sw_mk]
set_option maxHeartbeats 1000000 in
theorem k_X12_criticalStep_b85 {k24 k24_ : Mem → Int32 → Int32 → Int32 → Int32 → Option (Int32 × Mem)} (hk24 : ∀ (x0 : Mem) (x1 : Int32) (x2 : Int32) (x3 : Int32) (x4 : Int32), k24_ (sv v x0) x1 x2 x3 x4 = Option.map (sw v) (k24 x0 x1 x2 x3 x4)) (a1 : Int32) (Y : Mem) (l5 : Int32) (l3 : Int32) (l2 : Int32) : M12_criticalStep_b85 a1 k24_ (sv v Y) l5 l3 l2 = Option.map (sw v) (M12_criticalStep_b85 a1 k24 Y l5 l3 l2) := by
  simp only [M12_criticalStep_b85, hk24, k_X12_criticalStep_b89 hk24, sv_rd, sv_up, lt_sv, map_bd1, map_bd2, map_gd, map_lt, map_ite, map_sm, bd1_map, bd2_map, sw_mk]
set_option maxHeartbeats 1000000 in
theorem k_X12_criticalStep_b55 {k24 k24_ : Mem → Int32 → Int32 → Int32 → Int32 → Option (Int32 × Mem)} (hk24 : ∀ (x0 : Mem) (x1 : Int32) (x2 : Int32) (x3 : Int32) (x4 : Int32), k24_ (sv v x0) x1 x2 x3 x4 = Option.map (sw v) (k24 x0 x1 x2 x3 x4)) (a1 : Int32) (Y : Mem) (l5 : Int32) (l4 : Int32) (l3 : Int32) (l2 : Int32) (s0 : Int32) : M12_criticalStep_b55 a1 k24_ (sv v Y) l5 l4 l3 l2 s0 = Option.map (sw v) (M12_criticalStep_b55 a1 k24 Y l5 l4 l3 l2 s0) := by
  simp only [M12_criticalStep_b55, hk24, k_X12_criticalStep_b89 hk24, k_X12_criticalStep_b85 hk24, sv_rd, sv_up, lt_sv, map_bd1, map_bd2, map_gd, map_lt, map_ite, map_sm, bd1_map, bd2_map, sw_mk]
set_option maxHeartbeats 1000000 in
theorem k_X12_criticalStep_b50 {k24 k24_ : Mem → Int32 → Int32 → Int32 → Int32 → Option (Int32 × Mem)} (hk24 : ∀ (x0 : Mem) (x1 : Int32) (x2 : Int32) (x3 : Int32) (x4 : Int32), k24_ (sv v x0) x1 x2 x3 x4 = Option.map (sw v) (k24 x0 x1 x2 x3 x4)) (a1 : Int32) (Y : Mem) (l5 : Int32) (l4 : Int32) (l3 : Int32) (l2 : Int32) : M12_criticalStep_b50 a1 k24_ (sv v Y) l5 l4 l3 l2 = Option.map (sw v) (M12_criticalStep_b50 a1 k24 Y l5 l4 l3 l2) := by
  simp only [M12_criticalStep_b50, hk24, k_X12_criticalStep_b55 hk24, sv_rd, sv_up, lt_sv, map_bd1, map_bd2, map_gd, map_lt, map_ite, map_sm, bd1_map, bd2_map, sw_mk]
set_option maxHeartbeats 1000000 in
theorem k_X12_criticalStep_b24 {k13 k13_ : Mem → Int32 → Int32 → Option (Int32 × Mem)} (hk13 : ∀ (x0 : Mem) (x1 : Int32) (x2 : Int32), k13_ (sv v x0) x1 x2 = Option.map (sw v) (k13 x0 x1 x2)) (a1 : Int32) : ∀ (n : Nat) (e1 : Mem) (e2 : Int32) (e3 : Int32) (e4 : Int32) (e5 : Int32), M12_criticalStep_b24 a1 k13_ n (sv v e1) e2 e3 e4 e5 = Option.map (sw v) (M12_criticalStep_b24 a1 k13 n e1 e2 e3 e4 e5) := by
  intro n
  induction n with
  | zero => intros; rfl
  | succ n ih =>
    intro e1 e2 e3 e4 e5
    simp only [M12_criticalStep_b24, k_X12_isPredecessor, hk13, k_X12_criticalStep_b50 ih, k_X12_criticalStep_b55 ih, ih, sv_rd, sv_up, lt_sv, map_bd1, map_bd2, map_gd, map_lt, map_ite, map_sm, bd1_map, bd2_map, sw_mk]
set_option maxHeartbeats 1000000 in
theorem k_X12_criticalStep_b13 (a1 : Int32) : ∀ (n : Nat) (e1 : Mem) (e2 : Int32) (e3 : Int32), M12_criticalStep_b13 a1 n (sv v e1) e2 e3 = Option.map (sw v) (M12_criticalStep_b13 a1 n e1 e2 e3) := by
  intro n
  induction n with
  | zero => intros; rfl
  | succ n ih =>
    intro e1 e2 e3
    simp only [M12_criticalStep_b13, k_X12_criticalStep_b24 ih, ih, sv_rd, sv_up, lt_sv, map_bd1, map_bd2, map_gd, map_lt, map_ite, map_sm, bd1_map, bd2_map, sw_mk]
set_option maxHeartbeats 1000000 in
theorem k_X12_criticalStep (Y : Mem) (a1 : Int32) : M12_criticalStep (sv v Y) a1 = Option.map (sw v) (M12_criticalStep Y a1) := by
  simp only [M12_criticalStep, k_X12_computePaths, k_X12_criticalStep_b13, sv_rd, sv_up, lt_sv, map_bd1, map_bd2, map_gd, map_lt, map_ite, map_sm, bd1_map, bd2_map, sw_mk]
set_option maxHeartbeats 1000000 in
theorem k_X12_dependsOn_b117 {k67 k67_ : Mem → Int32 → Option (Int32 × Mem)} (hk67 : ∀ (x0 : Mem) (x1 : Int32), k67_ (sv v x0) x1 = Option.map (sw v) (k67 x0 x1)) (a1 : Int32) (a2 : Int32) (Y : Mem) (l3 : Int32) : M12_dependsOn_b117 a1 a2 k67_ (sv v Y) l3 = Option.map (sw v) (M12_dependsOn_b117 a1 a2 k67 Y l3) := by
  simp only [M12_dependsOn_b117, hk67, sv_rd, sv_up, lt_sv, map_bd1, map_bd2, map_gd, map_lt, map_ite, map_sm, bd1_map, bd2_map, sw_mk]
set_option maxHeartbeats 1000000 in
theorem k_X12_dependsOn_b74 {k67 k67_ : Mem → Int32 → Option (Int32 × Mem)} (hk67 : ∀ (x0 : Mem) (x1 : Int32), k67_ (sv v x0) x1 = Option.map (sw v) (k67 x0 x1)) (a1 : Int32) (a2 : Int32) : ∀ (n : Nat) (e1 : Mem) (e2 : Int32) (e3 : Int32), M12_dependsOn_b74 a1 a2 k67_ n (sv v e1) e2 e3 = Option.map (sw v) (M12_dependsOn_b74 a1 a2 k67 n e1 e2 e3) := by
  intro n
  induction n with
  | zero => intros; rfl
  | succ n ih =>
    intro e1 e2 e3
    simp only [M12_dependsOn_b74, k_X12_of, hk67, k_X12_dependsOn_b117 hk67, ih, sv_rd, sv_up, lt_sv, map_bd1, map_bd2, map_gd, map_lt, map_ite, map_sm, bd1_map, bd2_map, sw_mk]
set_option maxHeartbeats 1000000 in
theorem k_X12_dependsOn_b67 (a1 : Int32) (a2 : Int32) : ∀ (n : Nat) (e1 : Mem) (e2 : Int32), M12_dependsOn_b67 a1 a2 n (sv v e1) e2 = Option.map (sw v) (M12_dependsOn_b67 a1 a2 n e1 e2) := by
  intro n
  induction n with
  | zero => intros; rfl
  | succ n ih =>
    intro e1 e2
    simp only [M12_dependsOn_b67, k_X12_dependsOn_b74 ih, ih, sv_rd, sv_up, lt_sv, map_bd1, map_bd2, map_gd, map_lt, map_ite, map_sm, bd1_map, bd2_map, sw_mk]
set_option maxHeartbeats 1000000 in
theorem k_X12_dependsOn_b34 (a1 : Int32) (a2 : Int32) : ∀ (n : Nat) (e1 : Mem) (e2 : Int32), M12_dependsOn_b34 a1 a2 n (sv v e1) e2 = Option.map (sw v) (M12_dependsOn_b34 a1 a2 n e1 e2) := by
  intro n
  induction n with
  | zero => intros; rfl
  | succ n ih =>
    intro e1 e2
    simp only [M12_dependsOn_b34, k_X12_dependsOn_b67, ih, sv_rd, sv_up, lt_sv, map_bd1, map_bd2, map_gd, map_lt, map_ite, map_sm, bd1_map, bd2_map, sw_mk]
set_option maxHeartbeats 1000000 in
theorem k_X12_dependsOn_b22 (a1 : Int32) (a2 : Int32) (Y : Mem) (s0 : Int32) : M12_dependsOn_b22 a1 a2 (sv v Y) s0 = Option.map (sw v) (M12_dependsOn_b22 a1 a2 Y s0) := by
  simp only [M12_dependsOn_b22, k_X12_fails, k_X12_dependsOn_b34, sv_rd, sv_up, lt_sv, map_bd1, map_bd2, map_gd, map_lt, map_ite, map_sm, bd1_map, bd2_map, sw_mk]
set_option maxHeartbeats 1000000 in
theorem k_X12_dependsOn_b17 (a1 : Int32) (a2 : Int32) (Y : Mem) : M12_dependsOn_b17 a1 a2 (sv v Y) = Option.map (sw v) (M12_dependsOn_b17 a1 a2 Y) := by
  simp only [M12_dependsOn_b17, k_X12_dependsOn_b22, sv_rd, sv_up, lt_sv, map_bd1, map_bd2, map_gd, map_lt, map_ite, map_sm, bd1_map, bd2_map, sw_mk]
set_option maxHeartbeats 1000000 in
theorem k_X12_dependsOn (Y : Mem) (a1 : Int32) (a2 : Int32) : M12_dependsOn (sv v Y) a1 a2 = Option.map (sw v) (M12_dependsOn Y a1 a2) := by
  simp only [M12_dependsOn, k_X12_isStep, k_X12_dependsOn_b17, k_X12_dependsOn_b22, sv_rd, sv_up, lt_sv, map_bd1, map_bd2, map_gd, map_lt, map_ite, map_sm, bd1_map, bd2_map, sw_mk]
set_option maxHeartbeats 1000000 in
theorem k_X12_passMinutes_b10 (a1 : Int32) : ∀ (n : Nat) (e1 : Mem) (e2 : Int32) (e3 : Int32), M12_passMinutes_b10 a1 n (sv v e1) e2 e3 = Option.map (sw v) (M12_passMinutes_b10 a1 n e1 e2 e3) := by
  intro n
  induction n with
  | zero => intros; rfl
  | succ n ih =>
    intro e1 e2 e3
    simp only [M12_passMinutes_b10, k_X12_passMinute, ih, sv_rd, sv_up, lt_sv, map_bd1, map_bd2, map_gd, map_lt, map_ite, map_sm, bd1_map, bd2_map, sw_mk]
set_option maxHeartbeats 1000000 in
theorem k_X12_passMinutes (Y : Mem) (a1 : Int32) : M12_passMinutes (sv v Y) a1 = Option.map (sw v) (M12_passMinutes Y a1) := by
  simp only [M12_passMinutes, k_X12_passMinutes_b10, sv_rd, sv_up, lt_sv, map_bd1, map_bd2, map_gd, map_lt, map_ite, map_sm, bd1_map, bd2_map, sw_mk]
set_option maxHeartbeats 1000000 in
theorem k_X12_stopIt (Y : Mem) (a1 : Int32) : M12_stopIt (sv v Y) a1 = Option.map (sw v) (M12_stopIt Y a1) := by
  simp only [M12_stopIt, k_X12_of, k_X12_set, sv_rd, sv_up, lt_sv, map_bd1, map_bd2, map_gd, map_lt, map_ite, map_sm, bd1_map, bd2_map, sw_mk]
set_option maxHeartbeats 1000000 in
theorem k_X12_redoIt (Y : Mem) (a1 : Int32) : M12_redoIt (sv v Y) a1 = Option.map (sw v) (M12_redoIt Y a1) := by
  simp only [M12_redoIt, k_X12_of, k_X12_set, sv_rd, sv_up, lt_sv, map_bd1, map_bd2, map_gd, map_lt, map_ite, map_sm, bd1_map, bd2_map, sw_mk]
set_option maxHeartbeats 1000000 in
theorem k_X12_doIt (Y : Mem) (a1 : Int32) (a2 : Int32) (a3 : Int32) : M12_doIt (sv v Y) a1 a2 a3 = Option.map (sv v) (M12_doIt Y a1 a2 a3) := by
  simp only [M12_doIt, k_X12_passMinutes, k_X12_stopIt, k_X12_redoIt, k_X12_set, sv_rd, sv_up, lt_sv, map_bd1, map_bd2, map_gd, map_lt, map_ite, map_sm, bd1_map, bd2_map, sw_mk]
set_option maxHeartbeats 1000000 in
theorem k_X12_doneShare (Y : Mem) : M12_doneShare (sv v Y) = Option.map (sw v) (M12_doneShare Y) := by
  simp only [M12_doneShare, k_X12_withStatus, sv_rd, sv_up, lt_sv, map_bd1, map_bd2, map_gd, map_lt, map_ite, map_sm, bd1_map, bd2_map, sw_mk]
set_option maxHeartbeats 1000000 in
theorem k_X12_duration (Y : Mem) (a1 : Int32) : M12_duration (sv v Y) a1 = Option.map (sw v) (M12_duration Y a1) := by
  simp only [M12_duration, k_X12_field, sv_rd, sv_up, lt_sv, map_bd1, map_bd2, map_gd, map_lt, map_ite, map_sm, bd1_map, bd2_map, sw_mk]
set_option maxHeartbeats 1000000 in
theorem k_X12_errorCode (Y : Mem) : M12_errorCode (sv v Y) = Option.map (sw v) (M12_errorCode Y) := by
  simp only [M12_errorCode, sv_rd, sv_up, lt_sv, map_bd1, map_bd2, map_gd, map_lt, map_ite, map_sm, bd1_map, bd2_map, sw_mk]
set_option maxHeartbeats 1000000 in
theorem k_X12_errorPosition (Y : Mem) : M12_errorPosition (sv v Y) = Option.map (sw v) (M12_errorPosition Y) := by
  simp only [M12_errorPosition, sv_rd, sv_up, lt_sv, map_bd1, map_bd2, map_gd, map_lt, map_ite, map_sm, bd1_map, bd2_map, sw_mk]
set_option maxHeartbeats 1000000 in
theorem k_X12_finishWith (Y : Mem) (a1 : Int32) : M12_finishWith (sv v Y) a1 = Option.map (sw v) (M12_finishWith Y a1) := by
  simp only [M12_finishWith, k_X12_copyBlock, k_X12_simulate, sv_rd, sv_up, lt_sv, map_bd1, map_bd2, map_gd, map_lt, map_ite, map_sm, bd1_map, bd2_map, sw_mk]
set_option maxHeartbeats 1000000 in
theorem k_X12_fewestCooks_b13  : ∀ (n : Nat) (e1 : Mem) (e2 : Int32) (e3 : Int32), M12_fewestCooks_b13 n (sv v e1) e2 e3 = Option.map (sw v) (M12_fewestCooks_b13 n e1 e2 e3) := by
  intro n
  induction n with
  | zero => intros; rfl
  | succ n ih =>
    intro e1 e2 e3
    simp only [M12_fewestCooks_b13, k_X12_finishWith, ih, sv_rd, sv_up, lt_sv, map_bd1, map_bd2, map_gd, map_lt, map_ite, map_sm, bd1_map, bd2_map, sw_mk]
end
