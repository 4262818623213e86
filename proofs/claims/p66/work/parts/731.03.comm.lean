/-! PHASE 3: THE REFERENCE DOES NOT LOOK AT THE LAW'S OWN CELL -/
section
variable {v : Mem}
set_option maxHeartbeats 1000000 in
theorem k_X12_simulate_b26 (Y : Mem) (l1 : Int32) : M12_simulate_b26 (sv v Y) l1 = Option.map (sw v) (M12_simulate_b26 Y l1) := by
  simp only [M12_simulate_b26, k_X12_isFinished, sv_rd, sv_up, lt_sv, map_bd1, map_bd2, map_gd, map_lt, map_ite, map_sm, bd1_map, bd2_map, sw_mk]
set_option maxHeartbeats 1000000 in
theorem k_X12_simulate_b2  : ∀ (n : Nat) (e1 : Mem) (e2 : Int32), M12_simulate_b2 n (sv v e1) e2 = Option.map (sw v) (M12_simulate_b2 n e1 e2) := by
  intro n
  induction n with
  | zero => intros; rfl
  | succ n ih =>
    intro e1 e2
    simp only [M12_simulate_b2, k_X12_simulate_b26, k_X12_isFinished, k_X12_passMinute, ih, sv_rd, sv_up, lt_sv, map_bd1, map_bd2, map_gd, map_lt, map_ite, map_sm, bd1_map, bd2_map, sw_mk]
set_option maxHeartbeats 1000000 in
theorem k_X12_simulate (Y : Mem) : M12_simulate (sv v Y) = Option.map (sw v) (M12_simulate Y) := by
  simp only [M12_simulate, k_X12_simulate_b2, sv_rd, sv_up, lt_sv, map_bd1, map_bd2, map_gd, map_lt, map_ite, map_sm, bd1_map, bd2_map, sw_mk]
set_option maxHeartbeats 1000000 in
theorem k_X12_bottleneck_b128 {k28 k28_ : Mem → Int32 → Int32 → Int32 → Option (Int32 × Mem)} (hk28 : ∀ (x0 : Mem) (x1 : Int32) (x2 : Int32) (x3 : Int32), k28_ (sv v x0) x1 x2 x3 = Option.map (sw v) (k28 x0 x1 x2 x3)) (Y : Mem) (l2 : Int32) (l1 : Int32) (l3 : Int32) : M12_bottleneck_b128 k28_ (sv v Y) l2 l1 l3 = Option.map (sw v) (M12_bottleneck_b128 k28 Y l2 l1 l3) := by
  simp only [M12_bottleneck_b128, hk28, sv_rd, sv_up, lt_sv, map_bd1, map_bd2, map_gd, map_lt, map_ite, map_sm, bd1_map, bd2_map, sw_mk]
set_option maxHeartbeats 1000000 in
theorem k_X12_bottleneck_b123 {k28 k28_ : Mem → Int32 → Int32 → Int32 → Option (Int32 × Mem)} (hk28 : ∀ (x0 : Mem) (x1 : Int32) (x2 : Int32) (x3 : Int32), k28_ (sv v x0) x1 x2 x3 = Option.map (sw v) (k28 x0 x1 x2 x3)) (Y : Mem) (l4 : Int32) (l3 : Int32) : M12_bottleneck_b123 k28_ (sv v Y) l4 l3 = Option.map (sw v) (M12_bottleneck_b123 k28 Y l4 l3) := by
  simp only [M12_bottleneck_b123, hk28, k_X12_bottleneck_b128 hk28, sv_rd, sv_up, lt_sv, map_bd1, map_bd2, map_gd, map_lt, map_ite, map_sm, bd1_map, bd2_map, sw_mk]
set_option maxHeartbeats 1000000 in
theorem k_X12_bottleneck_b107 {k28 k28_ : Mem → Int32 → Int32 → Int32 → Option (Int32 × Mem)} (hk28 : ∀ (x0 : Mem) (x1 : Int32) (x2 : Int32) (x3 : Int32), k28_ (sv v x0) x1 x2 x3 = Option.map (sw v) (k28 x0 x1 x2 x3)) (Y : Mem) (l3 : Int32) (l2 : Int32) (l1 : Int32) (s0 : Int32) : M12_bottleneck_b107 k28_ (sv v Y) l3 l2 l1 s0 = Option.map (sw v) (M12_bottleneck_b107 k28 Y l3 l2 l1 s0) := by
  simp only [M12_bottleneck_b107, hk28, k_X12_bottleneck_b123 hk28, k_X12_bottleneck_b128 hk28, sv_rd, sv_up, lt_sv, map_bd1, map_bd2, map_gd, map_lt, map_ite, map_sm, bd1_map, bd2_map, sw_mk]
set_option maxHeartbeats 1000000 in
theorem k_X12_bottleneck_b80 {k28 k28_ : Mem → Int32 → Int32 → Int32 → Option (Int32 × Mem)} (hk28 : ∀ (x0 : Mem) (x1 : Int32) (x2 : Int32) (x3 : Int32), k28_ (sv v x0) x1 x2 x3 = Option.map (sw v) (k28 x0 x1 x2 x3)) (Y : Mem) (l3 : Int32) (l2 : Int32) (l1 : Int32) : M12_bottleneck_b80 k28_ (sv v Y) l3 l2 l1 = Option.map (sw v) (M12_bottleneck_b80 k28 Y l3 l2 l1) := by
  simp only [M12_bottleneck_b80, k_X12_simulate, k_X12_copyBlock, hk28, k_X12_bottleneck_b107 hk28, sv_rd, sv_up, lt_sv, map_bd1, map_bd2, map_gd, map_lt, map_ite, map_sm, bd1_map, bd2_map, sw_mk]
set_option maxHeartbeats 1000000 in
theorem k_X12_bottleneck_b28  : ∀ (n : Nat) (e1 : Mem) (e2 : Int32) (e3 : Int32) (e4 : Int32), M12_bottleneck_b28 n (sv v e1) e2 e3 e4 = Option.map (sw v) (M12_bottleneck_b28 n e1 e2 e3 e4) := by
  intro n
  induction n with
  | zero => intros; rfl
  | succ n ih =>
    intro e1 e2 e3 e4
    simp only [M12_bottleneck_b28, k_X12_of, k_X12_set, k_X12_bottleneck_b128 ih, k_X12_bottleneck_b80 ih, ih, sv_rd, sv_up, lt_sv, map_bd1, map_bd2, map_gd, map_lt, map_ite, map_sm, bd1_map, bd2_map, sw_mk]
set_option maxHeartbeats 1000000 in
theorem k_X12_bottleneck (Y : Mem) : M12_bottleneck (sv v Y) = Option.map (sw v) (M12_bottleneck Y) := by
  simp only [M12_bottleneck, k_X12_isFinished, k_X12_fails, k_X12_copyBlock, k_X12_bottleneck_b28, sv_rd, sv_up, lt_sv, map_bd1, map_bd2, map_gd, map_lt, map_ite, map_sm, bd1_map, bd2_map, sw_mk]
set_option maxHeartbeats 1000000 in
theorem k_X12_plain (Y : Mem) (a1 : Int32) : M12_plain (sv v Y) a1 = Option.map (sw v) (M12_plain Y a1) := by
  simp only [M12_plain, sv_rd, sv_up, lt_sv, map_bd1, map_bd2, map_gd, map_lt, map_ite, map_sm, bd1_map, bd2_map, sw_mk]
set_option maxHeartbeats 1000000 in
theorem k_X12_burns (Y : Mem) : M12_burns (sv v Y) = Option.map (sw v) (M12_burns Y) := by
  simp only [M12_burns, k_X12_plain, sv_rd, sv_up, lt_sv, map_bd1, map_bd2, map_gd, map_lt, map_ite, map_sm, bd1_map, bd2_map, sw_mk]
set_option maxHeartbeats 1000000 in
theorem k_X12_canRedo (Y : Mem) (a1 : Int32) : M12_canRedo (sv v Y) a1 = (M12_canRedo Y a1) := by
  simp only [M12_canRedo, k_X12_of, k_X12_isTaken, sv_rd, sv_up, lt_sv, map_bd1, map_bd2, map_gd, map_lt, map_ite, map_sm, bd1_map, bd2_map, sw_mk]
set_option maxHeartbeats 1000000 in
theorem k_X12_servingReason (Y : Mem) : M12_servingReason (sv v Y) = (M12_servingReason Y) := by
  simp only [M12_servingReason, k_X12_withStatus, k_X12_isFinished, k_X12_tasteNow, sv_rd, sv_up, lt_sv, map_bd1, map_bd2, map_gd, map_lt, map_ite, map_sm, bd1_map, bd2_map, sw_mk]
set_option maxHeartbeats 1000000 in
theorem k_X12_canDo (Y : Mem) (a1 : Int32) (a2 : Int32) (a3 : Int32) : M12_canDo (sv v Y) a1 a2 a3 = (M12_canDo Y a1 a2 a3) := by
  simp only [M12_canDo, k_X12_in, k_X12_of, k_X12_canRedo, k_X12_servingReason, sv_rd, sv_up, lt_sv, map_bd1, map_bd2, map_gd, map_lt, map_ite, map_sm, bd1_map, bd2_map, sw_mk]
set_option maxHeartbeats 1000000 in
theorem k_X12_nameOf (Y : Mem) (a0 : Int32) : M12_nameOf (sv v Y) a0 = (M12_nameOf Y a0) := by
  simp only [M12_nameOf, sv_rd, sv_up, lt_sv, map_bd1, map_bd2, map_gd, map_lt, map_ite, map_sm, bd1_map, bd2_map, sw_mk]
set_option maxHeartbeats 1000000 in
theorem k_J0_coder_7d493 (Y : Mem) (w0 : Nat) : J0_coder_7d493 (sv v Y) w0 = (J0_coder_7d493 Y w0) := by
  simp only [J0_coder_7d493, sv_rd, sv_up, lt_sv, map_bd1, map_bd2, map_gd, map_lt, map_ite, map_sm, bd1_map, bd2_map, sw_mk]
set_option maxHeartbeats 1000000 in
theorem k_J0_length_8abf5 (Y : Mem) (w0 : Nat) : J0_length_8abf5 (sv v Y) w0 = (J0_length_8abf5 Y w0) := by
  simp only [J0_length_8abf5, k_J0_coder_7d493, sv_rd, sv_up, lt_sv, map_bd1, map_bd2, map_gd, map_lt, map_ite, map_sm, bd1_map, bd2_map, sw_mk]
set_option maxHeartbeats 1000000 in
theorem k_J0_isLatin1_aae02 (Y : Mem) (w0 : Nat) : J0_isLatin1_aae02 (sv v Y) w0 = (J0_isLatin1_aae02 Y w0) := by
  simp only [J0_isLatin1_aae02, sv_rd, sv_up, lt_sv, map_bd1, map_bd2, map_gd, map_lt, map_ite, map_sm, bd1_map, bd2_map, sw_mk]
set_option maxHeartbeats 1000000 in
theorem k_J3_checkIndex_8e157 (Y : Mem) (a0 : Int32) (a1 : Int32) : J3_checkIndex_8e157 (sv v Y) a0 a1 = (J3_checkIndex_8e157 Y a0 a1) := by
  simp only [J3_checkIndex_8e157, sv_rd, sv_up, lt_sv, map_bd1, map_bd2, map_gd, map_lt, map_ite, map_sm, bd1_map, bd2_map, sw_mk]
set_option maxHeartbeats 1000000 in
theorem k_J0_checkIndex_df160 (Y : Mem) (a0 : Int32) (a1 : Int32) : J0_checkIndex_df160 (sv v Y) a0 a1 = (J0_checkIndex_df160 Y a0 a1) := by
  simp only [J0_checkIndex_df160, k_J3_checkIndex_8e157, sv_rd, sv_up, lt_sv, map_bd1, map_bd2, map_gd, map_lt, map_ite, map_sm, bd1_map, bd2_map, sw_mk]
set_option maxHeartbeats 1000000 in
theorem k_J1_charAt_3b067 (Y : Mem) (w0 : Nat) (a1 : Int32) : J1_charAt_3b067 (sv v Y) w0 a1 = (J1_charAt_3b067 Y w0 a1) := by
  simp only [J1_charAt_3b067, k_J0_checkIndex_df160, sv_rd, sv_up, lt_sv, map_bd1, map_bd2, map_gd, map_lt, map_ite, map_sm, bd1_map, bd2_map, sw_mk]
set_option maxHeartbeats 1000000 in
theorem k_J0_charAt_5068e (Y : Mem) (w0 : Nat) (a1 : Int32) : J0_charAt_5068e (sv v Y) w0 a1 = (J0_charAt_5068e Y w0 a1) := by
  simp only [J0_charAt_5068e, k_J0_isLatin1_aae02, k_J1_charAt_3b067, sv_rd, sv_up, lt_sv, map_bd1, map_bd2, map_gd, map_lt, map_ite, map_sm, bd1_map, bd2_map, sw_mk]
set_option maxHeartbeats 1000000 in
theorem k_X12_isWord_b28 (Y : Mem) (w1 : Nat) : ∀ (n : Nat) (e1 : Int32), M12_isWord_b28 (sv v Y) w1 n e1 = (M12_isWord_b28 Y w1 n e1) := by
  intro n
  induction n with
  | zero => intros; rfl
  | succ n ih =>
    intro e1
    simp only [M12_isWord_b28, k_J0_length_8abf5, k_J0_charAt_5068e, ih, sv_rd, sv_up, lt_sv, map_bd1, map_bd2, map_gd, map_lt, map_ite, map_sm, bd1_map, bd2_map, sw_mk]
set_option maxHeartbeats 1000000 in
theorem k_X12_isWord (Y : Mem) (w1 : Nat) : M12_isWord (sv v Y) w1 = (M12_isWord Y w1) := by
  simp only [M12_isWord, k_J0_length_8abf5, k_X12_isWord_b28, sv_rd, sv_up, lt_sv, map_bd1, map_bd2, map_gd, map_lt, map_ite, map_sm, bd1_map, bd2_map, sw_mk]
set_option maxHeartbeats 1000000 in
theorem k_X12_commandHere_b2 (Y : Mem) : ∀ (n : Nat) (e1 : Int32), M12_commandHere_b2 (sv v Y) n e1 = (M12_commandHere_b2 Y n e1) := by
  intro n
  induction n with
  | zero => intros; rfl
  | succ n ih =>
    intro e1
    simp only [M12_commandHere_b2, k_X12_nameOf, k_X12_isWord, ih, sv_rd, sv_up, lt_sv, map_bd1, map_bd2, map_gd, map_lt, map_ite, map_sm, bd1_map, bd2_map, sw_mk]
set_option maxHeartbeats 1000000 in
theorem k_X12_commandHere (Y : Mem) : M12_commandHere (sv v Y) = (M12_commandHere Y) := by
  simp only [M12_commandHere, k_X12_commandHere_b2, sv_rd, sv_up, lt_sv, map_bd1, map_bd2, map_gd, map_lt, map_ite, map_sm, bd1_map, bd2_map, sw_mk]
set_option maxHeartbeats 1000000 in
theorem k_X12_completions (Y : Mem) : M12_completions (sv v Y) = Option.map (sw v) (M12_completions Y) := by
  simp only [M12_completions, k_X12_plain, sv_rd, sv_up, lt_sv, map_bd1, map_bd2, map_gd, map_lt, map_ite, map_sm, bd1_map, bd2_map, sw_mk]
set_option maxHeartbeats 1000000 in
theorem k_X12_computeHeads_b86 {k22 k22_ : Mem → Int32 → Int32 → Option (Mem)} (hk22 : ∀ (x0 : Mem) (x1 : Int32) (x2 : Int32), k22_ (sv v x0) x1 x2 = Option.map (sv v) (k22 x0 x1 x2)) (Y : Mem) (l2 : Int32) (l1 : Int32) : M12_computeHeads_b86 k22_ (sv v Y) l2 l1 = Option.map (sv v) (M12_computeHeads_b86 k22 Y l2 l1) := by
  simp only [M12_computeHeads_b86, hk22, sv_rd, sv_up, lt_sv, map_bd1, map_bd2, map_gd, map_lt, map_ite, map_sm, bd1_map, bd2_map, sw_mk]
set_option maxHeartbeats 1000000 in
theorem k_X12_computeHeads_b22 {k2 k2_ : Mem → Int32 → Option (Mem)} (hk2 : ∀ (x0 : Mem) (x1 : Int32), k2_ (sv v x0) x1 = Option.map (sv v) (k2 x0 x1)) : ∀ (n : Nat) (e1 : Mem) (e2 : Int32) (e3 : Int32), M12_computeHeads_b22 k2_ n (sv v e1) e2 e3 = Option.map (sv v) (M12_computeHeads_b22 k2 n e1 e2 e3) := by
  intro n
  induction n with
  | zero => intros; rfl
  | succ n ih =>
    intro e1 e2 e3
    simp only [M12_computeHeads_b22, k_X12_of, hk2, k_X12_computeHeads_b86 ih, ih, sv_rd, sv_up, lt_sv, map_bd1, map_bd2, map_gd, map_lt, map_ite, map_sm, bd1_map, bd2_map, sw_mk]
set_option maxHeartbeats 1000000 in
theorem k_X12_computeHeads_b2  : ∀ (n : Nat) (e1 : Mem) (e2 : Int32), M12_computeHeads_b2 n (sv v e1) e2 = Option.map (sv v) (M12_computeHeads_b2 n e1 e2) := by
  intro n
  induction n with
  | zero => intros; rfl
  | succ n ih =>
    intro e1 e2
    simp only [M12_computeHeads_b2, k_X12_computeHeads_b22 ih, ih, sv_rd, sv_up, lt_sv, map_bd1, map_bd2, map_gd, map_lt, map_ite, map_sm, bd1_map, bd2_map, sw_mk]
end
