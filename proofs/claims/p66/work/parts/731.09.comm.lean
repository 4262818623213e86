/-! PHASE 3: THE REFERENCE DOES NOT LOOK AT THE LAW'S OWN CELL -/
section
variable {v : Mem}
set_option maxHeartbeats 1000000 in
theorem k_X12_starts (Y : Mem) : M12_starts (sv v Y) = Option.map (sw v) (M12_starts Y) := by
  simp only [M12_starts, k_X12_plain, sv_rd, sv_up, lt_sv, map_bd1, map_bd2, map_gd, map_lt, map_ite, map_sm, bd1_map, bd2_map, sw_mk]
set_option maxHeartbeats 1000000 in
theorem k_X12_startsOf (Y : Mem) (a1 : Int32) : M12_startsOf (sv v Y) a1 = Option.map (sw v) (M12_startsOf Y a1) := by
  simp only [M12_startsOf, k_X12_field, sv_rd, sv_up, lt_sv, map_bd1, map_bd2, map_gd, map_lt, map_ite, map_sm, bd1_map, bd2_map, sw_mk]
set_option maxHeartbeats 1000000 in
theorem k_X12_status (Y : Mem) (a1 : Int32) : M12_status (sv v Y) a1 = Option.map (sw v) (M12_status Y a1) := by
  simp only [M12_status, k_X12_field, sv_rd, sv_up, lt_sv, map_bd1, map_bd2, map_gd, map_lt, map_ite, map_sm, bd1_map, bd2_map, sw_mk]
set_option maxHeartbeats 1000000 in
theorem k_X12_statusAfter_b30 (a1 : Int32) (a2 : Int32) (Y : Mem) (s0 : Int32) (s1 : Int32) : M12_statusAfter_b30 a1 a2 (sv v Y) s0 s1 = Option.map (sw v) (M12_statusAfter_b30 a1 a2 Y s0 s1) := by
  simp only [M12_statusAfter_b30, k_X12_fails, k_X12_copyBlock, k_X12_passMinutes, k_X12_of, sv_rd, sv_up, lt_sv, map_bd1, map_bd2, map_gd, map_lt, map_ite, map_sm, bd1_map, bd2_map, sw_mk]
set_option maxHeartbeats 1000000 in
theorem k_X12_statusAfter_b14 (a1 : Int32) (a2 : Int32) (Y : Mem) (s0 : Int32) : M12_statusAfter_b14 a1 a2 (sv v Y) s0 = Option.map (sw v) (M12_statusAfter_b14 a1 a2 Y s0) := by
  simp only [M12_statusAfter_b14, k_X12_in, k_X12_statusAfter_b30, sv_rd, sv_up, lt_sv, map_bd1, map_bd2, map_gd, map_lt, map_ite, map_sm, bd1_map, bd2_map, sw_mk]
set_option maxHeartbeats 1000000 in
theorem k_X12_statusAfter (Y : Mem) (a1 : Int32) (a2 : Int32) : M12_statusAfter (sv v Y) a1 a2 = Option.map (sw v) (M12_statusAfter Y a1 a2) := by
  simp only [M12_statusAfter, k_X12_isStep, k_X12_statusAfter_b14, sv_rd, sv_up, lt_sv, map_bd1, map_bd2, map_gd, map_lt, map_ite, map_sm, bd1_map, bd2_map, sw_mk]
set_option maxHeartbeats 1000000 in
theorem k_X12_stepCount (Y : Mem) : M12_stepCount (sv v Y) = Option.map (sw v) (M12_stepCount Y) := by
  simp only [M12_stepCount, k_X12_plain, sv_rd, sv_up, lt_sv, map_bd1, map_bd2, map_gd, map_lt, map_ite, map_sm, bd1_map, bd2_map, sw_mk]
set_option maxHeartbeats 1000000 in
theorem k_X12_stepTaste (Y : Mem) (a1 : Int32) : M12_stepTaste (sv v Y) a1 = Option.map (sw v) (M12_stepTaste Y a1) := by
  simp only [M12_stepTaste, k_X12_field, sv_rd, sv_up, lt_sv, map_bd1, map_bd2, map_gd, map_lt, map_ite, map_sm, bd1_map, bd2_map, sw_mk]
set_option maxHeartbeats 1000000 in
theorem k_X12_stop_b36 (a1 : Int32) (Y : Mem) (s0 : Int32) (s1 : Int32) : M12_stop_b36 a1 (sv v Y) s0 s1 = Option.map (sw v) (M12_stop_b36 a1 Y s0 s1) := by
  simp only [M12_stop_b36, k_X12_fails, k_X12_remember, k_X12_stopIt, sv_rd, sv_up, lt_sv, map_bd1, map_bd2, map_gd, map_lt, map_ite, map_sm, bd1_map, bd2_map, sw_mk]
set_option maxHeartbeats 1000000 in
theorem k_X12_stop_b35 (a1 : Int32) (Y : Mem) (s0 : Int32) : M12_stop_b35 a1 (sv v Y) s0 = Option.map (sw v) (M12_stop_b35 a1 Y s0) := by
  simp only [M12_stop_b35, k_X12_stop_b36, sv_rd, sv_up, lt_sv, map_bd1, map_bd2, map_gd, map_lt, map_ite, map_sm, bd1_map, bd2_map, sw_mk]
set_option maxHeartbeats 1000000 in
theorem k_X12_stop_b16 (a1 : Int32) (Y : Mem) (l2 : Int32) (s0 : Int32) : M12_stop_b16 a1 (sv v Y) l2 s0 = Option.map (sw v) (M12_stop_b16 a1 Y l2 s0) := by
  simp only [M12_stop_b16, k_X12_stop_b35, k_X12_of, k_X12_stop_b36, sv_rd, sv_up, lt_sv, map_bd1, map_bd2, map_gd, map_lt, map_ite, map_sm, bd1_map, bd2_map, sw_mk]
set_option maxHeartbeats 1000000 in
theorem k_X12_stop (Y : Mem) (a1 : Int32) : M12_stop (sv v Y) a1 = Option.map (sw v) (M12_stop Y a1) := by
  simp only [M12_stop, k_X12_isStep, k_X12_stop_b16, sv_rd, sv_up, lt_sv, map_bd1, map_bd2, map_gd, map_lt, map_ite, map_sm, bd1_map, bd2_map, sw_mk]
set_option maxHeartbeats 1000000 in
theorem k_X12_successors_b32 {k6 k6_ : Int32 → Int32 → Option (Int32)} (hk6 : ∀ (x0 : Int32) (x1 : Int32), k6_ x0 x1 = (k6 x0 x1)) (Y : Mem) (a1 : Int32) (l3 : Int32) (s0 : Int32) (s1 : Int32) : M12_successors_b32 (sv v Y) a1 k6_ l3 s0 s1 = (M12_successors_b32 Y a1 k6 l3 s0 s1) := by
  simp only [M12_successors_b32, hk6, sv_rd, sv_up, lt_sv, map_bd1, map_bd2, map_gd, map_lt, map_ite, map_sm, bd1_map, bd2_map, sw_mk]
set_option maxHeartbeats 1000000 in
theorem k_X12_successors_b6 (Y : Mem) (a1 : Int32) : ∀ (n : Nat) (e1 : Int32) (e2 : Int32), M12_successors_b6 (sv v Y) a1 n e1 e2 = (M12_successors_b6 Y a1 n e1 e2) := by
  intro n
  induction n with
  | zero => intros; rfl
  | succ n ih =>
    intro e1 e2
    simp only [M12_successors_b6, k_X12_isPredecessor, k_X12_successors_b32 ih, ih, sv_rd, sv_up, lt_sv, map_bd1, map_bd2, map_gd, map_lt, map_ite, map_sm, bd1_map, bd2_map, sw_mk]
set_option maxHeartbeats 1000000 in
theorem k_X12_successors (Y : Mem) (a1 : Int32) : M12_successors (sv v Y) a1 = (M12_successors Y a1) := by
  simp only [M12_successors, k_X12_successors_b6, sv_rd, sv_up, lt_sv, map_bd1, map_bd2, map_gd, map_lt, map_ite, map_sm, bd1_map, bd2_map, sw_mk]
set_option maxHeartbeats 1000000 in
theorem k_X12_successorCount_b14 (a1 : Int32) (Y : Mem) (s0 : Int32) : M12_successorCount_b14 a1 (sv v Y) s0 = Option.map (sw v) (M12_successorCount_b14 a1 Y s0) := by
  simp only [M12_successorCount_b14, k_X12_fails, k_X12_successors, sv_rd, sv_up, lt_sv, map_bd1, map_bd2, map_gd, map_lt, map_ite, map_sm, bd1_map, bd2_map, sw_mk]
set_option maxHeartbeats 1000000 in
theorem k_X12_successorCount (Y : Mem) (a1 : Int32) : M12_successorCount (sv v Y) a1 = Option.map (sw v) (M12_successorCount Y a1) := by
  simp only [M12_successorCount, k_X12_isStep, k_X12_successorCount_b14, sv_rd, sv_up, lt_sv, map_bd1, map_bd2, map_gd, map_lt, map_ite, map_sm, bd1_map, bd2_map, sw_mk]
set_option maxHeartbeats 1000000 in
theorem k_X12_taste (Y : Mem) : M12_taste (sv v Y) = Option.map (sw v) (M12_taste Y) := by
  simp only [M12_taste, k_X12_tasteNow, k_X12_plain, sv_rd, sv_up, lt_sv, map_bd1, map_bd2, map_gd, map_lt, map_ite, map_sm, bd1_map, bd2_map, sw_mk]
set_option maxHeartbeats 1000000 in
theorem k_X12_thrown (Y : Mem) : M12_thrown (sv v Y) = (M12_thrown Y) := by
  simp only [M12_thrown, sv_rd, sv_up, lt_sv, map_bd1, map_bd2, map_gd, map_lt, map_ite, map_sm, bd1_map, bd2_map, sw_mk]
set_option maxHeartbeats 1000000 in
theorem k_X12_truncate_b18 (a1 : Int32) (Y : Mem) (s0 : Int32) : M12_truncate_b18 a1 (sv v Y) s0 = Option.map (sw v) (M12_truncate_b18 a1 Y s0) := by
  simp only [M12_truncate_b18, k_X12_fails, sv_rd, sv_up, lt_sv, map_bd1, map_bd2, map_gd, map_lt, map_ite, map_sm, bd1_map, bd2_map, sw_mk]
set_option maxHeartbeats 1000000 in
theorem k_X12_truncate (Y : Mem) (a1 : Int32) : M12_truncate (sv v Y) a1 = Option.map (sw v) (M12_truncate Y a1) := by
  simp only [M12_truncate, k_X12_in, k_X12_truncate_b18, sv_rd, sv_up, lt_sv, map_bd1, map_bd2, map_gd, map_lt, map_ite, map_sm, bd1_map, bd2_map, sw_mk]
set_option maxHeartbeats 1000000 in
theorem k_X12_undo_b13 (Y : Mem) (s0 : Int32) : M12_undo_b13 (sv v Y) s0 = Option.map (sw v) (M12_undo_b13 Y s0) := by
  simp only [M12_undo_b13, k_X12_fails, k_X12_copyBlock, sv_rd, sv_up, lt_sv, map_bd1, map_bd2, map_gd, map_lt, map_ite, map_sm, bd1_map, bd2_map, sw_mk]
set_option maxHeartbeats 1000000 in
theorem k_X12_undo (Y : Mem) : M12_undo (sv v Y) = Option.map (sw v) (M12_undo Y) := by
  simp only [M12_undo, k_X12_undo_b13, sv_rd, sv_up, lt_sv, map_bd1, map_bd2, map_gd, map_lt, map_ite, map_sm, bd1_map, bd2_map, sw_mk]
set_option maxHeartbeats 1000000 in
theorem k_X12_whyNotRunning_b14 (a1 : Int32) (Y : Mem) (s0 : Int32) : M12_whyNotRunning_b14 a1 (sv v Y) s0 = Option.map (sw v) (M12_whyNotRunning_b14 a1 Y s0) := by
  simp only [M12_whyNotRunning_b14, k_X12_fails, k_X12_reasonFor, sv_rd, sv_up, lt_sv, map_bd1, map_bd2, map_gd, map_lt, map_ite, map_sm, bd1_map, bd2_map, sw_mk]
set_option maxHeartbeats 1000000 in
theorem k_X12_whyNotRunning (Y : Mem) (a1 : Int32) : M12_whyNotRunning (sv v Y) a1 = Option.map (sw v) (M12_whyNotRunning Y a1) := by
  simp only [M12_whyNotRunning, k_X12_isStep, k_X12_whyNotRunning_b14, sv_rd, sv_up, lt_sv, map_bd1, map_bd2, map_gd, map_lt, map_ite, map_sm, bd1_map, bd2_map, sw_mk]
set_option maxHeartbeats 1000000 in
theorem k_X12_whyNotServed (Y : Mem) : M12_whyNotServed (sv v Y) = Option.map (sw v) (M12_whyNotServed Y) := by
  simp only [M12_whyNotServed, k_X12_servingReason, sv_rd, sv_up, lt_sv, map_bd1, map_bd2, map_gd, map_lt, map_ite, map_sm, bd1_map, bd2_map, sw_mk]
set_option maxHeartbeats 1000000 in
theorem k_X12_writeSummary_b35 {k12 k12_ : Mem → Int32 → Option (Int32 × Mem)} (hk12 : ∀ (x0 : Mem) (x1 : Int32), k12_ (sv v x0) x1 = Option.map (sw v) (k12 x0 x1)) : ∀ (n : Nat) (e1 : Mem) (e2 : Int32) (e3 : Int32), M12_writeSummary_b35 k12_ n (sv v e1) e2 e3 = Option.map (sw v) (M12_writeSummary_b35 k12 n e1 e2 e3) := by
  intro n
  induction n with
  | zero => intros; rfl
  | succ n ih =>
    intro e1 e2 e3
    simp only [M12_writeSummary_b35, k_X12_of, k_X12_putMark, k_X12_put, hk12, ih, sv_rd, sv_up, lt_sv, map_bd1, map_bd2, map_gd, map_lt, map_ite, map_sm, bd1_map, bd2_map, sw_mk]
set_option maxHeartbeats 1000000 in
theorem k_X12_writeSummary_b33 {k12 k12_ : Mem → Int32 → Option (Int32 × Mem)} (hk12 : ∀ (x0 : Mem) (x1 : Int32), k12_ (sv v x0) x1 = Option.map (sw v) (k12 x0 x1)) (Y : Mem) (l1 : Int32) : M12_writeSummary_b33 k12_ (sv v Y) l1 = Option.map (sw v) (M12_writeSummary_b33 k12 Y l1) := by
  simp only [M12_writeSummary_b33, hk12, k_X12_writeSummary_b35 hk12, sv_rd, sv_up, lt_sv, map_bd1, map_bd2, map_gd, map_lt, map_ite, map_sm, bd1_map, bd2_map, sw_mk]
set_option maxHeartbeats 1000000 in
theorem k_X12_writeSummary_b12  : ∀ (n : Nat) (e1 : Mem) (e2 : Int32), M12_writeSummary_b12 n (sv v e1) e2 = Option.map (sw v) (M12_writeSummary_b12 n e1 e2) := by
  intro n
  induction n with
  | zero => intros; rfl
  | succ n ih =>
    intro e1 e2
    simp only [M12_writeSummary_b12, k_X12_put, k_X12_writeSummary_b33 ih, ih, sv_rd, sv_up, lt_sv, map_bd1, map_bd2, map_gd, map_lt, map_ite, map_sm, bd1_map, bd2_map, sw_mk]
set_option maxHeartbeats 1000000 in
theorem k_X12_writeSummary (Y : Mem) : M12_writeSummary (sv v Y) = Option.map (sw v) (M12_writeSummary Y) := by
  simp only [M12_writeSummary, k_X12_writeSummary_b12, sv_rd, sv_up, lt_sv, map_bd1, map_bd2, map_gd, map_lt, map_ite, map_sm, bd1_map, bd2_map, sw_mk]
end
