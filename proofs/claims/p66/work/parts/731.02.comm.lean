/-! PHASE 3: THE REFERENCE DOES NOT LOOK AT THE LAW'S OWN CELL -/
section
variable {v : Mem}
set_option maxHeartbeats 1000000 in
theorem k_X12_blocker_b65 {k19 k19_ : Int32 → Int32 → Option (Int32)} (hk19 : ∀ (x0 : Int32) (x1 : Int32), k19_ x0 x1 = (k19 x0 x1)) (Y : Mem) (a1 : Int32) (l3 : Int32) (l2 : Int32) : M12_blocker_b65 (sv v Y) a1 k19_ l3 l2 = (M12_blocker_b65 Y a1 k19 l3 l2) := by
  simp only [M12_blocker_b65, hk19, sv_rd, sv_up, lt_sv, map_bd1, map_bd2, map_gd, map_lt, map_ite, map_sm, bd1_map, bd2_map, sw_mk]
set_option maxHeartbeats 1000000 in
theorem k_X12_blocker_b50 {k19 k19_ : Int32 → Int32 → Option (Int32)} (hk19 : ∀ (x0 : Int32) (x1 : Int32), k19_ x0 x1 = (k19 x0 x1)) (Y : Mem) (a1 : Int32) (l3 : Int32) (l2 : Int32) : M12_blocker_b50 (sv v Y) a1 k19_ l3 l2 = (M12_blocker_b50 Y a1 k19 l3 l2) := by
  simp only [M12_blocker_b50, k_X12_isCooked, hk19, k_X12_blocker_b65 hk19, sv_rd, sv_up, lt_sv, map_bd1, map_bd2, map_gd, map_lt, map_ite, map_sm, bd1_map, bd2_map, sw_mk]
set_option maxHeartbeats 1000000 in
theorem k_X12_blocker_b19 (Y : Mem) (a1 : Int32) : ∀ (n : Nat) (e1 : Int32) (e2 : Int32), M12_blocker_b19 (sv v Y) a1 n e1 e2 = (M12_blocker_b19 Y a1 n e1 e2) := by
  intro n
  induction n with
  | zero => intros; rfl
  | succ n ih =>
    intro e1 e2
    simp only [M12_blocker_b19, k_X12_of, k_X12_occupies, k_X12_blocker_b50 ih, ih, sv_rd, sv_up, lt_sv, map_bd1, map_bd2, map_gd, map_lt, map_ite, map_sm, bd1_map, bd2_map, sw_mk]
set_option maxHeartbeats 1000000 in
theorem k_X12_blocker (Y : Mem) (a1 : Int32) : M12_blocker (sv v Y) a1 = (M12_blocker Y a1) := by
  simp only [M12_blocker, k_X12_reasonFor, k_X12_firstOpen, k_X12_blocker_b19, sv_rd, sv_up, lt_sv, map_bd1, map_bd2, map_gd, map_lt, map_ite, map_sm, bd1_map, bd2_map, sw_mk]
set_option maxHeartbeats 1000000 in
theorem k_X12_blockingStep_b14 (a1 : Int32) (Y : Mem) (s0 : Int32) : M12_blockingStep_b14 a1 (sv v Y) s0 = Option.map (sw v) (M12_blockingStep_b14 a1 Y s0) := by
  simp only [M12_blockingStep_b14, k_X12_fails, k_X12_blocker, sv_rd, sv_up, lt_sv, map_bd1, map_bd2, map_gd, map_lt, map_ite, map_sm, bd1_map, bd2_map, sw_mk]
set_option maxHeartbeats 1000000 in
theorem k_X12_blockingStep (Y : Mem) (a1 : Int32) : M12_blockingStep (sv v Y) a1 = Option.map (sw v) (M12_blockingStep Y a1) := by
  simp only [M12_blockingStep, k_X12_isStep, k_X12_blockingStep_b14, sv_rd, sv_up, lt_sv, map_bd1, map_bd2, map_gd, map_lt, map_ite, map_sm, bd1_map, bd2_map, sw_mk]
set_option maxHeartbeats 1000000 in
theorem k_X12_withStatus_b32 {k4 k4_ : Int32 → Int32 → Option (Int32)} (hk4 : ∀ (x0 : Int32) (x1 : Int32), k4_ x0 x1 = (k4 x0 x1)) (Y : Mem) (a1 : Int32) (l3 : Int32) (s0 : Int32) (s1 : Int32) : M12_withStatus_b32 (sv v Y) a1 k4_ l3 s0 s1 = (M12_withStatus_b32 Y a1 k4 l3 s0 s1) := by
  simp only [M12_withStatus_b32, hk4, sv_rd, sv_up, lt_sv, map_bd1, map_bd2, map_gd, map_lt, map_ite, map_sm, bd1_map, bd2_map, sw_mk]
set_option maxHeartbeats 1000000 in
theorem k_X12_withStatus_b4 (Y : Mem) (a1 : Int32) : ∀ (n : Nat) (e1 : Int32) (e2 : Int32), M12_withStatus_b4 (sv v Y) a1 n e1 e2 = (M12_withStatus_b4 Y a1 n e1 e2) := by
  intro n
  induction n with
  | zero => intros; rfl
  | succ n ih =>
    intro e1 e2
    simp only [M12_withStatus_b4, k_X12_of, k_X12_withStatus_b32 ih, ih, sv_rd, sv_up, lt_sv, map_bd1, map_bd2, map_gd, map_lt, map_ite, map_sm, bd1_map, bd2_map, sw_mk]
set_option maxHeartbeats 1000000 in
theorem k_X12_withStatus (Y : Mem) (a1 : Int32) : M12_withStatus (sv v Y) a1 = (M12_withStatus Y a1) := by
  simp only [M12_withStatus, k_X12_withStatus_b4, sv_rd, sv_up, lt_sv, map_bd1, map_bd2, map_gd, map_lt, map_ite, map_sm, bd1_map, bd2_map, sw_mk]
set_option maxHeartbeats 1000000 in
theorem k_X12_isFinished (Y : Mem) : M12_isFinished (sv v Y) = (M12_isFinished Y) := by
  simp only [M12_isFinished, k_X12_withStatus, sv_rd, sv_up, lt_sv, map_bd1, map_bd2, map_gd, map_lt, map_ite, map_sm, bd1_map, bd2_map, sw_mk]
set_option maxHeartbeats 1000000 in
theorem k_X12_set (Y : Mem) (a1 : Int32) (a2 : Int32) (a3 : Int32) : M12_set (sv v Y) a1 a2 a3 = Option.map (sv v) (M12_set Y a1 a2 a3) := by
  simp only [M12_set, sv_rd, sv_up, lt_sv, map_bd1, map_bd2, map_gd, map_lt, map_ite, map_sm, bd1_map, bd2_map, sw_mk]
set_option maxHeartbeats 1000000 in
theorem k_X12_work (Y : Mem) (a1 : Int32) : M12_work (sv v Y) a1 = Option.map (sv v) (M12_work Y a1) := by
  simp only [M12_work, k_X12_set, k_X12_of, sv_rd, sv_up, lt_sv, map_bd1, map_bd2, map_gd, map_lt, map_ite, map_sm, bd1_map, bd2_map, sw_mk]
set_option maxHeartbeats 1000000 in
theorem k_X12_isTaken (Y : Mem) (a1 : Int32) : M12_isTaken (sv v Y) a1 = (M12_isTaken Y a1) := by
  simp only [M12_isTaken, k_X12_of, k_X12_hasSuccessor, sv_rd, sv_up, lt_sv, map_bd1, map_bd2, map_gd, map_lt, map_ite, map_sm, bd1_map, bd2_map, sw_mk]
set_option maxHeartbeats 1000000 in
theorem k_X12_cool (Y : Mem) (a1 : Int32) : M12_cool (sv v Y) a1 = Option.map (sv v) (M12_cool Y a1) := by
  simp only [M12_cool, k_X12_of, k_X12_isTaken, k_X12_set, sv_rd, sv_up, lt_sv, map_bd1, map_bd2, map_gd, map_lt, map_ite, map_sm, bd1_map, bd2_map, sw_mk]
set_option maxHeartbeats 1000000 in
theorem k_X12_computePaths_b57 {k20 k20_ : Mem → Int32 → Int32 → Int32 → Option (Mem)} (hk20 : ∀ (x0 : Mem) (x1 : Int32) (x2 : Int32) (x3 : Int32), k20_ (sv v x0) x1 x2 x3 = Option.map (sv v) (k20 x0 x1 x2 x3)) (Y : Mem) (l3 : Int32) (l2 : Int32) (l1 : Int32) : M12_computePaths_b57 k20_ (sv v Y) l3 l2 l1 = Option.map (sv v) (M12_computePaths_b57 k20 Y l3 l2 l1) := by
  simp only [M12_computePaths_b57, hk20, sv_rd, sv_up, lt_sv, map_bd1, map_bd2, map_gd, map_lt, map_ite, map_sm, bd1_map, bd2_map, sw_mk]
set_option maxHeartbeats 1000000 in
theorem k_X12_computePaths_b20 {k10 k10_ : Mem → Int32 → Option (Mem)} (hk10 : ∀ (x0 : Mem) (x1 : Int32), k10_ (sv v x0) x1 = Option.map (sv v) (k10 x0 x1)) : ∀ (n : Nat) (e1 : Mem) (e2 : Int32) (e3 : Int32) (e4 : Int32), M12_computePaths_b20 k10_ n (sv v e1) e2 e3 e4 = Option.map (sv v) (M12_computePaths_b20 k10 n e1 e2 e3 e4) := by
  intro n
  induction n with
  | zero => intros; rfl
  | succ n ih =>
    intro e1 e2 e3 e4
    simp only [M12_computePaths_b20, k_X12_of, k_X12_isPredecessor, hk10, k_X12_computePaths_b57 ih, ih, sv_rd, sv_up, lt_sv, map_bd1, map_bd2, map_gd, map_lt, map_ite, map_sm, bd1_map, bd2_map, sw_mk]
set_option maxHeartbeats 1000000 in
theorem k_X12_computePaths_b10  : ∀ (n : Nat) (e1 : Mem) (e2 : Int32), M12_computePaths_b10 n (sv v e1) e2 = Option.map (sv v) (M12_computePaths_b10 n e1 e2) := by
  intro n
  induction n with
  | zero => intros; rfl
  | succ n ih =>
    intro e1 e2
    simp only [M12_computePaths_b10, k_X12_computePaths_b20 ih, ih, sv_rd, sv_up, lt_sv, map_bd1, map_bd2, map_gd, map_lt, map_ite, map_sm, bd1_map, bd2_map, sw_mk]
set_option maxHeartbeats 1000000 in
theorem k_X12_computePaths (Y : Mem) : M12_computePaths (sv v Y) = Option.map (sv v) (M12_computePaths Y) := by
  simp only [M12_computePaths, k_X12_computePaths_b10, sv_rd, sv_up, lt_sv, map_bd1, map_bd2, map_gd, map_lt, map_ite, map_sm, bd1_map, bd2_map, sw_mk]
set_option maxHeartbeats 1000000 in
theorem k_X12_isReady (Y : Mem) (a1 : Int32) : M12_isReady (sv v Y) a1 = (M12_isReady Y a1) := by
  simp only [M12_isReady, k_X12_of, k_X12_firstOpen, sv_rd, sv_up, lt_sv, map_bd1, map_bd2, map_gd, map_lt, map_ite, map_sm, bd1_map, bd2_map, sw_mk]
set_option maxHeartbeats 1000000 in
theorem k_X12_queueReady_b88 {k8 k8_ : Mem → Int32 → Int32 → Option (Int32 × Mem)} (hk8 : ∀ (x0 : Mem) (x1 : Int32) (x2 : Int32), k8_ (sv v x0) x1 x2 = Option.map (sw v) (k8 x0 x1 x2)) (Y : Mem) (l1 : Int32) (l2 : Int32) : M12_queueReady_b88 k8_ (sv v Y) l1 l2 = Option.map (sw v) (M12_queueReady_b88 k8 Y l1 l2) := by
  simp only [M12_queueReady_b88, hk8, sv_rd, sv_up, lt_sv, map_bd1, map_bd2, map_gd, map_lt, map_ite, map_sm, bd1_map, bd2_map, sw_mk]
set_option maxHeartbeats 1000000 in
theorem k_X12_queueReady_b78 {k8 k8_ : Mem → Int32 → Int32 → Option (Int32 × Mem)} (hk8 : ∀ (x0 : Mem) (x1 : Int32) (x2 : Int32), k8_ (sv v x0) x1 x2 = Option.map (sw v) (k8 x0 x1 x2)) (Y : Mem) (l3 : Int32) (l2 : Int32) (l1 : Int32) : M12_queueReady_b78 k8_ (sv v Y) l3 l2 l1 = Option.map (sw v) (M12_queueReady_b78 k8 Y l3 l2 l1) := by
  simp only [M12_queueReady_b78, hk8, k_X12_queueReady_b88 hk8, sv_rd, sv_up, lt_sv, map_bd1, map_bd2, map_gd, map_lt, map_ite, map_sm, bd1_map, bd2_map, sw_mk]
set_option maxHeartbeats 1000000 in
theorem k_X12_queueReady_b32 {k8 k8_ : Mem → Int32 → Int32 → Option (Int32 × Mem)} (hk8 : ∀ (x0 : Mem) (x1 : Int32) (x2 : Int32), k8_ (sv v x0) x1 x2 = Option.map (sw v) (k8 x0 x1 x2)) : ∀ (n : Nat) (e1 : Mem) (e2 : Int32) (e3 : Int32) (e4 : Int32), M12_queueReady_b32 k8_ n (sv v e1) e2 e3 e4 = Option.map (sw v) (M12_queueReady_b32 k8 n e1 e2 e3 e4) := by
  intro n
  induction n with
  | zero => intros; rfl
  | succ n ih =>
    intro e1 e2 e3 e4
    simp only [M12_queueReady_b32, hk8, k_X12_queueReady_b78 hk8, ih, sv_rd, sv_up, lt_sv, map_bd1, map_bd2, map_gd, map_lt, map_ite, map_sm, bd1_map, bd2_map, sw_mk]
set_option maxHeartbeats 1000000 in
theorem k_X12_queueReady_b8  : ∀ (n : Nat) (e1 : Mem) (e2 : Int32) (e3 : Int32), M12_queueReady_b8 n (sv v e1) e2 e3 = Option.map (sw v) (M12_queueReady_b8 n e1 e2 e3) := by
  intro n
  induction n with
  | zero => intros; rfl
  | succ n ih =>
    intro e1 e2 e3
    simp only [M12_queueReady_b8, k_X12_isReady, k_X12_queueReady_b88 ih, k_X12_queueReady_b32 ih, ih, sv_rd, sv_up, lt_sv, map_bd1, map_bd2, map_gd, map_lt, map_ite, map_sm, bd1_map, bd2_map, sw_mk]
set_option maxHeartbeats 1000000 in
theorem k_X12_queueReady (Y : Mem) : M12_queueReady (sv v Y) = Option.map (sw v) (M12_queueReady Y) := by
  simp only [M12_queueReady, k_X12_computePaths, k_X12_queueReady_b8, sv_rd, sv_up, lt_sv, map_bd1, map_bd2, map_gd, map_lt, map_ite, map_sm, bd1_map, bd2_map, sw_mk]
set_option maxHeartbeats 1000000 in
theorem k_X12_startIfPossible (Y : Mem) (a1 : Int32) : M12_startIfPossible (sv v Y) a1 = Option.map (sv v) (M12_startIfPossible Y a1) := by
  simp only [M12_startIfPossible, k_X12_hasCook, k_X12_hasPan, k_X12_set, k_X12_of, sv_rd, sv_up, lt_sv, map_bd1, map_bd2, map_gd, map_lt, map_ite, map_sm, bd1_map, bd2_map, sw_mk]
set_option maxHeartbeats 1000000 in
theorem k_X12_passMinute_b86 (Y : Mem) : M12_passMinute_b86 (sv v Y) = Option.map (sv v) (M12_passMinute_b86 Y) := by
  simp only [M12_passMinute_b86, sv_rd, sv_up, lt_sv, map_bd1, map_bd2, map_gd, map_lt, map_ite, map_sm, bd1_map, bd2_map, sw_mk]
set_option maxHeartbeats 1000000 in
theorem k_X12_passMinute_b65  : ∀ (n : Nat) (e1 : Mem) (e2 : Int32) (e3 : Int32), M12_passMinute_b65 n (sv v e1) e2 e3 = Option.map (sv v) (M12_passMinute_b65 n e1 e2 e3) := by
  intro n
  induction n with
  | zero => intros; rfl
  | succ n ih =>
    intro e1 e2 e3
    simp only [M12_passMinute_b65, k_X12_passMinute_b86, k_X12_startIfPossible, ih, sv_rd, sv_up, lt_sv, map_bd1, map_bd2, map_gd, map_lt, map_ite, map_sm, bd1_map, bd2_map, sw_mk]
set_option maxHeartbeats 1000000 in
theorem k_X12_passMinute_b36  : ∀ (n : Nat) (e1 : Mem) (e2 : Int32), M12_passMinute_b36 n (sv v e1) e2 = Option.map (sv v) (M12_passMinute_b36 n e1 e2) := by
  intro n
  induction n with
  | zero => intros; rfl
  | succ n ih =>
    intro e1 e2
    simp only [M12_passMinute_b36, k_X12_queueReady, k_X12_passMinute_b65, k_X12_cool, ih, sv_rd, sv_up, lt_sv, map_bd1, map_bd2, map_gd, map_lt, map_ite, map_sm, bd1_map, bd2_map, sw_mk]
set_option maxHeartbeats 1000000 in
theorem k_X12_passMinute_b12  : ∀ (n : Nat) (e1 : Mem) (e2 : Int32), M12_passMinute_b12 n (sv v e1) e2 = Option.map (sv v) (M12_passMinute_b12 n e1 e2) := by
  intro n
  induction n with
  | zero => intros; rfl
  | succ n ih =>
    intro e1 e2
    simp only [M12_passMinute_b12, k_X12_passMinute_b36, k_X12_work, ih, sv_rd, sv_up, lt_sv, map_bd1, map_bd2, map_gd, map_lt, map_ite, map_sm, bd1_map, bd2_map, sw_mk]
set_option maxHeartbeats 1000000 in
theorem k_X12_passMinute (Y : Mem) : M12_passMinute (sv v Y) = Option.map (sv v) (M12_passMinute Y) := by
  simp only [M12_passMinute, k_X12_passMinute_b12, k_X12_passMinute_b86, sv_rd, sv_up, lt_sv, map_bd1, map_bd2, map_gd, map_lt, map_ite, map_sm, bd1_map, bd2_map, sw_mk]
end
