/-! PHASE 3: THE REFERENCE DOES NOT LOOK AT THE LAW'S OWN CELL -/
section
variable {v : Mem}
set_option maxHeartbeats 1000000 in
theorem k_X12_token_b175  : ∀ (n : Nat) (e1 : Mem), M12_token_b175 n (sv v e1) = Option.map (sv v) (M12_token_b175 n e1) := by
  intro n
  induction n with
  | zero => intros; rfl
  | succ n ih =>
    intro e1
    simp only [M12_token_b175, k_X12_token_b251, k_X12_isDigit, k_X12_token_b238 ih, ih, sv_rd, sv_up, lt_sv, map_bd1, map_bd2, map_gd, map_lt, map_ite, map_sm, bd1_map, bd2_map, sw_mk]
set_option maxHeartbeats 1000000 in
theorem k_X12_token_b151 (Y : Mem) (s0 : Int32) : M12_token_b151 (sv v Y) s0 = Option.map (sv v) (M12_token_b151 Y s0) := by
  simp only [M12_token_b151, sv_rd, sv_up, lt_sv, map_bd1, map_bd2, map_gd, map_lt, map_ite, map_sm, bd1_map, bd2_map, sw_mk]
set_option maxHeartbeats 1000000 in
theorem k_X12_token_b131 (Y : Mem) : M12_token_b131 (sv v Y) = Option.map (sv v) (M12_token_b131 Y) := by
  simp only [M12_token_b131, k_X12_token_b151, sv_rd, sv_up, lt_sv, map_bd1, map_bd2, map_gd, map_lt, map_ite, map_sm, bd1_map, bd2_map, sw_mk]
set_option maxHeartbeats 1000000 in
theorem k_X12_token_b92  : ∀ (n : Nat) (e1 : Mem), M12_token_b92 n (sv v e1) = Option.map (sv v) (M12_token_b92 n e1) := by
  intro n
  induction n with
  | zero => intros; rfl
  | succ n ih =>
    intro e1
    simp only [M12_token_b92, k_X12_token_b131, k_X12_isSmall, ih, sv_rd, sv_up, lt_sv, map_bd1, map_bd2, map_gd, map_lt, map_ite, map_sm, bd1_map, bd2_map, sw_mk]
set_option maxHeartbeats 1000000 in
theorem k_X12_token_b52 (Y : Mem) : M12_token_b52 (sv v Y) = Option.map (sv v) (M12_token_b52 Y) := by
  simp only [M12_token_b52, k_X12_isSmall, k_X12_isDigit, k_X12_token_b294, k_X12_token_b175, k_X12_token_b92, sv_rd, sv_up, lt_sv, map_bd1, map_bd2, map_gd, map_lt, map_ite, map_sm, bd1_map, bd2_map, sw_mk]
set_option maxHeartbeats 1000000 in
theorem k_X12_token_b39 {k0 k0_ : Mem → Option (Mem)} (hk0 : ∀ (x0 : Mem), k0_ (sv v x0) = Option.map (sv v) (k0 x0)) (Y : Mem) : M12_token_b39 k0_ (sv v Y) = Option.map (sv v) (M12_token_b39 k0 Y) := by
  simp only [M12_token_b39, hk0, sv_rd, sv_up, lt_sv, map_bd1, map_bd2, map_gd, map_lt, map_ite, map_sm, bd1_map, bd2_map, sw_mk]
set_option maxHeartbeats 1000000 in
theorem k_X12_token_b0  : ∀ (n : Nat) (e1 : Mem), M12_token_b0 n (sv v e1) = Option.map (sv v) (M12_token_b0 n e1) := by
  intro n
  induction n with
  | zero => intros; rfl
  | succ n ih =>
    intro e1
    simp only [M12_token_b0, k_X12_token_b52, k_X12_token_b39 ih, ih, sv_rd, sv_up, lt_sv, map_bd1, map_bd2, map_gd, map_lt, map_ite, map_sm, bd1_map, bd2_map, sw_mk]
set_option maxHeartbeats 1000000 in
theorem k_X12_token (Y : Mem) : M12_token (sv v Y) = Option.map (sv v) (M12_token Y) := by
  simp only [M12_token, k_X12_token_b0, sv_rd, sv_up, lt_sv, map_bd1, map_bd2, map_gd, map_lt, map_ite, map_sm, bd1_map, bd2_map, sw_mk]
set_option maxHeartbeats 1000000 in
theorem k_X12_begin (Y : Mem) : M12_begin (sv v Y) = Option.map (sv v) (M12_begin Y) := by
  simp only [M12_begin, k_X12_token, sv_rd, sv_up, lt_sv, map_bd1, map_bd2, map_gd, map_lt, map_ite, map_sm, bd1_map, bd2_map, sw_mk]
set_option maxHeartbeats 1000000 in
theorem k_X12_firstOpen_b2 (Y : Mem) (a1 : Int32) : ∀ (n : Nat) (e1 : Int32), M12_firstOpen_b2 (sv v Y) a1 n e1 = (M12_firstOpen_b2 Y a1 n e1) := by
  intro n
  induction n with
  | zero => intros; rfl
  | succ n ih =>
    intro e1
    simp only [M12_firstOpen_b2, k_X12_of, ih, sv_rd, sv_up, lt_sv, map_bd1, map_bd2, map_gd, map_lt, map_ite, map_sm, bd1_map, bd2_map, sw_mk]
set_option maxHeartbeats 1000000 in
theorem k_X12_firstOpen (Y : Mem) (a1 : Int32) : M12_firstOpen (sv v Y) a1 = (M12_firstOpen Y a1) := by
  simp only [M12_firstOpen, k_X12_firstOpen_b2, sv_rd, sv_up, lt_sv, map_bd1, map_bd2, map_gd, map_lt, map_ite, map_sm, bd1_map, bd2_map, sw_mk]
set_option maxHeartbeats 1000000 in
theorem k_X12_isPredecessor_b2 (Y : Mem) (a1 : Int32) (a2 : Int32) : ∀ (n : Nat) (e1 : Int32), M12_isPredecessor_b2 (sv v Y) a1 a2 n e1 = (M12_isPredecessor_b2 Y a1 a2 n e1) := by
  intro n
  induction n with
  | zero => intros; rfl
  | succ n ih =>
    intro e1
    simp only [M12_isPredecessor_b2, k_X12_of, ih, sv_rd, sv_up, lt_sv, map_bd1, map_bd2, map_gd, map_lt, map_ite, map_sm, bd1_map, bd2_map, sw_mk]
set_option maxHeartbeats 1000000 in
theorem k_X12_isPredecessor (Y : Mem) (a1 : Int32) (a2 : Int32) : M12_isPredecessor (sv v Y) a1 a2 = (M12_isPredecessor Y a1 a2) := by
  simp only [M12_isPredecessor, k_X12_isPredecessor_b2, sv_rd, sv_up, lt_sv, map_bd1, map_bd2, map_gd, map_lt, map_ite, map_sm, bd1_map, bd2_map, sw_mk]
set_option maxHeartbeats 1000000 in
theorem k_X12_hasSuccessor_b53 {k5 k5_ : Int32 → Option (Int32)} (hk5 : ∀ (x0 : Int32), k5_ x0 = (k5 x0)) (Y : Mem) (a1 : Int32) (a2 : Int32) (a3 : Int32) (l4 : Int32) : M12_hasSuccessor_b53 (sv v Y) a1 a2 a3 k5_ l4 = (M12_hasSuccessor_b53 Y a1 a2 a3 k5 l4) := by
  simp only [M12_hasSuccessor_b53, hk5, sv_rd, sv_up, lt_sv, map_bd1, map_bd2, map_gd, map_lt, map_ite, map_sm, bd1_map, bd2_map, sw_mk]
set_option maxHeartbeats 1000000 in
theorem k_X12_hasSuccessor_b5 (Y : Mem) (a1 : Int32) (a2 : Int32) (a3 : Int32) : ∀ (n : Nat) (e1 : Int32), M12_hasSuccessor_b5 (sv v Y) a1 a2 a3 n e1 = (M12_hasSuccessor_b5 Y a1 a2 a3 n e1) := by
  intro n
  induction n with
  | zero => intros; rfl
  | succ n ih =>
    intro e1
    simp only [M12_hasSuccessor_b5, k_X12_isPredecessor, k_X12_of, k_X12_hasSuccessor_b53 ih, ih, sv_rd, sv_up, lt_sv, map_bd1, map_bd2, map_gd, map_lt, map_ite, map_sm, bd1_map, bd2_map, sw_mk]
set_option maxHeartbeats 1000000 in
theorem k_X12_hasSuccessor (Y : Mem) (a1 : Int32) (a2 : Int32) (a3 : Int32) : M12_hasSuccessor (sv v Y) a1 a2 a3 = (M12_hasSuccessor Y a1 a2 a3) := by
  simp only [M12_hasSuccessor, k_X12_hasSuccessor_b5, sv_rd, sv_up, lt_sv, map_bd1, map_bd2, map_gd, map_lt, map_ite, map_sm, bd1_map, bd2_map, sw_mk]
set_option maxHeartbeats 1000000 in
theorem k_X12_occupies_b45 (Y : Mem) (a1 : Int32) (a2 : Int32) : M12_occupies_b45 (sv v Y) a1 a2 = (M12_occupies_b45 Y a1 a2) := by
  simp only [M12_occupies_b45, sv_rd, sv_up, lt_sv, map_bd1, map_bd2, map_gd, map_lt, map_ite, map_sm, bd1_map, bd2_map, sw_mk]
set_option maxHeartbeats 1000000 in
theorem k_X12_occupies (Y : Mem) (a1 : Int32) (a2 : Int32) : M12_occupies (sv v Y) a1 a2 = (M12_occupies Y a1 a2) := by
  simp only [M12_occupies, k_X12_of, k_X12_occupies_b45, k_X12_hasSuccessor, sv_rd, sv_up, lt_sv, map_bd1, map_bd2, map_gd, map_lt, map_ite, map_sm, bd1_map, bd2_map, sw_mk]
set_option maxHeartbeats 1000000 in
theorem k_X12_usedPans_b30 {k4 k4_ : Int32 → Int32 → Option (Int32)} (hk4 : ∀ (x0 : Int32) (x1 : Int32), k4_ x0 x1 = (k4 x0 x1)) (Y : Mem) (a1 : Int32) (l3 : Int32) (s0 : Int32) (s1 : Int32) : M12_usedPans_b30 (sv v Y) a1 k4_ l3 s0 s1 = (M12_usedPans_b30 Y a1 k4 l3 s0 s1) := by
  simp only [M12_usedPans_b30, hk4, sv_rd, sv_up, lt_sv, map_bd1, map_bd2, map_gd, map_lt, map_ite, map_sm, bd1_map, bd2_map, sw_mk]
set_option maxHeartbeats 1000000 in
theorem k_X12_usedPans_b4 (Y : Mem) (a1 : Int32) : ∀ (n : Nat) (e1 : Int32) (e2 : Int32), M12_usedPans_b4 (sv v Y) a1 n e1 e2 = (M12_usedPans_b4 Y a1 n e1 e2) := by
  intro n
  induction n with
  | zero => intros; rfl
  | succ n ih =>
    intro e1 e2
    simp only [M12_usedPans_b4, k_X12_occupies, k_X12_usedPans_b30 ih, ih, sv_rd, sv_up, lt_sv, map_bd1, map_bd2, map_gd, map_lt, map_ite, map_sm, bd1_map, bd2_map, sw_mk]
set_option maxHeartbeats 1000000 in
theorem k_X12_usedPans (Y : Mem) (a1 : Int32) : M12_usedPans (sv v Y) a1 = (M12_usedPans Y a1) := by
  simp only [M12_usedPans, k_X12_usedPans_b4, sv_rd, sv_up, lt_sv, map_bd1, map_bd2, map_gd, map_lt, map_ite, map_sm, bd1_map, bd2_map, sw_mk]
set_option maxHeartbeats 1000000 in
theorem k_X12_capacity (Y : Mem) (a1 : Int32) : M12_capacity (sv v Y) a1 = (M12_capacity Y a1) := by
  simp only [M12_capacity, sv_rd, sv_up, lt_sv, map_bd1, map_bd2, map_gd, map_lt, map_ite, map_sm, bd1_map, bd2_map, sw_mk]
set_option maxHeartbeats 1000000 in
theorem k_X12_hasPan_b26 (Y : Mem) (a1 : Int32) : M12_hasPan_b26 (sv v Y) a1 = (M12_hasPan_b26 Y a1) := by
  simp only [M12_hasPan_b26, sv_rd, sv_up, lt_sv, map_bd1, map_bd2, map_gd, map_lt, map_ite, map_sm, bd1_map, bd2_map, sw_mk]
set_option maxHeartbeats 1000000 in
theorem k_X12_hasPan (Y : Mem) (a1 : Int32) : M12_hasPan (sv v Y) a1 = (M12_hasPan Y a1) := by
  simp only [M12_hasPan, k_X12_of, k_X12_hasPan_b26, k_X12_usedPans, k_X12_capacity, sv_rd, sv_up, lt_sv, map_bd1, map_bd2, map_gd, map_lt, map_ite, map_sm, bd1_map, bd2_map, sw_mk]
set_option maxHeartbeats 1000000 in
theorem k_X12_isCooked (Y : Mem) (a1 : Int32) : M12_isCooked (sv v Y) a1 = (M12_isCooked Y a1) := by
  simp only [M12_isCooked, k_X12_of, sv_rd, sv_up, lt_sv, map_bd1, map_bd2, map_gd, map_lt, map_ite, map_sm, bd1_map, bd2_map, sw_mk]
set_option maxHeartbeats 1000000 in
theorem k_X12_hasCook_b58 (Y : Mem) (a1 : Int32) : M12_hasCook_b58 (sv v Y) a1 = (M12_hasCook_b58 Y a1) := by
  simp only [M12_hasCook_b58, sv_rd, sv_up, lt_sv, map_bd1, map_bd2, map_gd, map_lt, map_ite, map_sm, bd1_map, bd2_map, sw_mk]
set_option maxHeartbeats 1000000 in
theorem k_X12_hasCook_b29 {k4 k4_ : Int32 → Int32 → Option (Int32)} (hk4 : ∀ (x0 : Int32) (x1 : Int32), k4_ x0 x1 = (k4 x0 x1)) (Y : Mem) (a1 : Int32) (l3 : Int32) (s0 : Int32) (s1 : Int32) : M12_hasCook_b29 (sv v Y) a1 k4_ l3 s0 s1 = (M12_hasCook_b29 Y a1 k4 l3 s0 s1) := by
  simp only [M12_hasCook_b29, hk4, sv_rd, sv_up, lt_sv, map_bd1, map_bd2, map_gd, map_lt, map_ite, map_sm, bd1_map, bd2_map, sw_mk]
set_option maxHeartbeats 1000000 in
theorem k_X12_hasCook_b4 (Y : Mem) (a1 : Int32) : ∀ (n : Nat) (e1 : Int32) (e2 : Int32), M12_hasCook_b4 (sv v Y) a1 n e1 e2 = (M12_hasCook_b4 Y a1 n e1 e2) := by
  intro n
  induction n with
  | zero => intros; rfl
  | succ n ih =>
    intro e1 e2
    simp only [M12_hasCook_b4, k_X12_of, k_X12_hasCook_b58, k_X12_isCooked, k_X12_hasCook_b29 ih, ih, sv_rd, sv_up, lt_sv, map_bd1, map_bd2, map_gd, map_lt, map_ite, map_sm, bd1_map, bd2_map, sw_mk]
set_option maxHeartbeats 1000000 in
theorem k_X12_hasCook (Y : Mem) (a1 : Int32) : M12_hasCook (sv v Y) a1 = (M12_hasCook Y a1) := by
  simp only [M12_hasCook, k_X12_hasCook_b4, sv_rd, sv_up, lt_sv, map_bd1, map_bd2, map_gd, map_lt, map_ite, map_sm, bd1_map, bd2_map, sw_mk]
set_option maxHeartbeats 1000000 in
theorem k_X12_reasonFor (Y : Mem) (a1 : Int32) : M12_reasonFor (sv v Y) a1 = (M12_reasonFor Y a1) := by
  simp only [M12_reasonFor, k_X12_of, k_X12_firstOpen, k_X12_hasPan, k_X12_hasCook, sv_rd, sv_up, lt_sv, map_bd1, map_bd2, map_gd, map_lt, map_ite, map_sm, bd1_map, bd2_map, sw_mk]
end
