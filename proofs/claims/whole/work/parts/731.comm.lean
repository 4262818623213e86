/-! PHASE 3: THE REFERENCE DOES NOT LOOK AT THE LAW'S OWN CELL -/
section
variable {v : Int32}
set_option maxHeartbeats 1000000 in
theorem k_X12_in (Y : Mem) (a0 : Int32) (a1 : Int32) (a2 : Int32) : X12_in (sv v Y) a0 a1 a2 = (X12_in Y a0 a1 a2) := by
  simp only [X12_in, sv_rd, sv_up, lt_sv, map_bd1, map_bd2, map_gd, map_lt, map_ite, map_sm, bd1_map, bd2_map, sw_mk]
set_option maxHeartbeats 1000000 in
theorem k_X12_fails_b26 (a1 : Int32) (a2 : Int32) (a3 : Int32) (Y : Mem) (s0 : Int32) : X12_fails_b26 a1 a2 a3 (sv v Y) s0 = Option.map (sw v) (X12_fails_b26 a1 a2 a3 Y s0) := by
  simp only [X12_fails_b26, sv_rd, sv_up, lt_sv, map_bd1, map_bd2, map_gd, map_lt, map_ite, map_sm, bd1_map, bd2_map, sw_mk]
set_option maxHeartbeats 1000000 in
theorem k_X12_fails (Y : Mem) (a1 : Int32) (a2 : Int32) (a3 : Int32) : X12_fails (sv v Y) a1 a2 a3 = Option.map (sw v) (X12_fails Y a1 a2 a3) := by
  simp only [X12_fails, k_X12_fails_b26, sv_rd, sv_up, lt_sv, map_bd1, map_bd2, map_gd, map_lt, map_ite, map_sm, bd1_map, bd2_map, sw_mk]
set_option maxHeartbeats 1000000 in
theorem k_X12_copyBlock_b2 (a1 : Int32) (a2 : Int32) : ∀ (n : Nat) (e1 : Mem) (e2 : Int32), X12_copyBlock_b2 a1 a2 n (sv v e1) e2 = Option.map (sv v) (X12_copyBlock_b2 a1 a2 n e1 e2) := by
  intro n
  induction n with
  | zero => intros; rfl
  | succ n ih =>
    intro e1 e2
    simp only [X12_copyBlock_b2, ih, sv_rd, sv_up, lt_sv, map_bd1, map_bd2, map_gd, map_lt, map_ite, map_sm, bd1_map, bd2_map, sw_mk]
set_option maxHeartbeats 1000000 in
theorem k_X12_copyBlock (Y : Mem) (a1 : Int32) (a2 : Int32) : X12_copyBlock (sv v Y) a1 a2 = Option.map (sv v) (X12_copyBlock Y a1 a2) := by
  simp only [X12_copyBlock, k_X12_copyBlock_b2, sv_rd, sv_up, lt_sv, map_bd1, map_bd2, map_gd, map_lt, map_ite, map_sm, bd1_map, bd2_map, sw_mk]
set_option maxHeartbeats 1000000 in
theorem k_X12_remember_b41 (a1 : Int32) (Y : Mem) : X12_remember_b41 a1 (sv v Y) = Option.map (sv v) (X12_remember_b41 a1 Y) := by
  simp only [X12_remember_b41, k_X12_copyBlock, sv_rd, sv_up, lt_sv, map_bd1, map_bd2, map_gd, map_lt, map_ite, map_sm, bd1_map, bd2_map, sw_mk]
set_option maxHeartbeats 1000000 in
theorem k_X12_remember_b11 (a1 : Int32) : ∀ (n : Nat) (e1 : Mem) (e2 : Int32), X12_remember_b11 a1 n (sv v e1) e2 = Option.map (sv v) (X12_remember_b11 a1 n e1 e2) := by
  intro n
  induction n with
  | zero => intros; rfl
  | succ n ih =>
    intro e1 e2
    simp only [X12_remember_b11, k_X12_remember_b41, k_X12_copyBlock, ih, sv_rd, sv_up, lt_sv, map_bd1, map_bd2, map_gd, map_lt, map_ite, map_sm, bd1_map, bd2_map, sw_mk]
set_option maxHeartbeats 1000000 in
theorem k_X12_remember (Y : Mem) (a1 : Int32) : X12_remember (sv v Y) a1 = Option.map (sv v) (X12_remember Y a1) := by
  simp only [X12_remember, k_X12_remember_b11, k_X12_remember_b41, sv_rd, sv_up, lt_sv, map_bd1, map_bd2, map_gd, map_lt, map_ite, map_sm, bd1_map, bd2_map, sw_mk]
set_option maxHeartbeats 1000000 in
theorem k_X12_of (Y : Mem) (a1 : Int32) (a2 : Int32) : X12_of (sv v Y) a1 a2 = (X12_of Y a1 a2) := by
  simp only [X12_of, sv_rd, sv_up, lt_sv, map_bd1, map_bd2, map_gd, map_lt, map_ite, map_sm, bd1_map, bd2_map, sw_mk]
set_option maxHeartbeats 1000000 in
theorem k_X12_tasteNow_b43 {k9 k9_ : Int32 → Int32 → Option (Int32)} (hk9 : ∀ (x0 : Int32) (x1 : Int32), k9_ x0 x1 = (k9 x0 x1)) (Y : Mem) (l2 : Int32) (s0 : Int32) (s1 : Int32) : X12_tasteNow_b43 (sv v Y) k9_ l2 s0 s1 = (X12_tasteNow_b43 Y k9 l2 s0 s1) := by
  simp only [X12_tasteNow_b43, hk9, sv_rd, sv_up, lt_sv, map_bd1, map_bd2, map_gd, map_lt, map_ite, map_sm, bd1_map, bd2_map, sw_mk]
set_option maxHeartbeats 1000000 in
theorem k_X12_tasteNow_b9 (Y : Mem) : ∀ (n : Nat) (e1 : Int32) (e2 : Int32), X12_tasteNow_b9 (sv v Y) n e1 e2 = (X12_tasteNow_b9 Y n e1 e2) := by
  intro n
  induction n with
  | zero => intros; rfl
  | succ n ih =>
    intro e1 e2
    simp only [X12_tasteNow_b9, k_X12_of, k_X12_tasteNow_b43 ih, ih, sv_rd, sv_up, lt_sv, map_bd1, map_bd2, map_gd, map_lt, map_ite, map_sm, bd1_map, bd2_map, sw_mk]
set_option maxHeartbeats 1000000 in
theorem k_X12_tasteNow (Y : Mem) : X12_tasteNow (sv v Y) = (X12_tasteNow Y) := by
  simp only [X12_tasteNow, k_X12_tasteNow_b9, sv_rd, sv_up, lt_sv, map_bd1, map_bd2, map_gd, map_lt, map_ite, map_sm, bd1_map, bd2_map, sw_mk]
set_option maxHeartbeats 1000000 in
theorem k_X12_addSalt_b37 (a1 : Int32) (Y : Mem) (s0 : Int32) (s1 : Int32) : X12_addSalt_b37 a1 (sv v Y) s0 s1 = Option.map (sw v) (X12_addSalt_b37 a1 Y s0 s1) := by
  simp only [X12_addSalt_b37, k_X12_fails, k_X12_remember, k_X12_tasteNow, sv_rd, sv_up, lt_sv, map_bd1, map_bd2, map_gd, map_lt, map_ite, map_sm, bd1_map, bd2_map, sw_mk]
set_option maxHeartbeats 1000000 in
theorem k_X12_addSalt_b21 (a1 : Int32) (Y : Mem) (s0 : Int32) : X12_addSalt_b21 a1 (sv v Y) s0 = Option.map (sw v) (X12_addSalt_b21 a1 Y s0) := by
  simp only [X12_addSalt_b21, k_X12_addSalt_b37, sv_rd, sv_up, lt_sv, map_bd1, map_bd2, map_gd, map_lt, map_ite, map_sm, bd1_map, bd2_map, sw_mk]
set_option maxHeartbeats 1000000 in
theorem k_X12_addSalt_b16 (a1 : Int32) (Y : Mem) : X12_addSalt_b16 a1 (sv v Y) = Option.map (sw v) (X12_addSalt_b16 a1 Y) := by
  simp only [X12_addSalt_b16, k_X12_addSalt_b21, sv_rd, sv_up, lt_sv, map_bd1, map_bd2, map_gd, map_lt, map_ite, map_sm, bd1_map, bd2_map, sw_mk]
set_option maxHeartbeats 1000000 in
theorem k_X12_addSalt (Y : Mem) (a1 : Int32) : X12_addSalt (sv v Y) a1 = Option.map (sw v) (X12_addSalt Y a1) := by
  simp only [X12_addSalt, k_X12_in, k_X12_addSalt_b16, k_X12_addSalt_b21, sv_rd, sv_up, lt_sv, map_bd1, map_bd2, map_gd, map_lt, map_ite, map_sm, bd1_map, bd2_map, sw_mk]
set_option maxHeartbeats 1000000 in
theorem k_X12_isStep (Y : Mem) (a1 : Int32) : X12_isStep (sv v Y) a1 = (X12_isStep Y a1) := by
  simp only [X12_isStep, k_X12_in, sv_rd, sv_up, lt_sv, map_bd1, map_bd2, map_gd, map_lt, map_ite, map_sm, bd1_map, bd2_map, sw_mk]
set_option maxHeartbeats 1000000 in
theorem k_X12_field_b14 (a1 : Int32) (a2 : Int32) (Y : Mem) (s0 : Int32) : X12_field_b14 a1 a2 (sv v Y) s0 = Option.map (sw v) (X12_field_b14 a1 a2 Y s0) := by
  simp only [X12_field_b14, k_X12_fails, k_X12_of, sv_rd, sv_up, lt_sv, map_bd1, map_bd2, map_gd, map_lt, map_ite, map_sm, bd1_map, bd2_map, sw_mk]
set_option maxHeartbeats 1000000 in
theorem k_X12_field (Y : Mem) (a1 : Int32) (a2 : Int32) : X12_field (sv v Y) a1 a2 = Option.map (sw v) (X12_field Y a1 a2) := by
  simp only [X12_field, k_X12_isStep, k_X12_field_b14, sv_rd, sv_up, lt_sv, map_bd1, map_bd2, map_gd, map_lt, map_ite, map_sm, bd1_map, bd2_map, sw_mk]
set_option maxHeartbeats 1000000 in
theorem k_X12_age (Y : Mem) (a1 : Int32) : X12_age (sv v Y) a1 = Option.map (sw v) (X12_age Y a1) := by
  simp only [X12_age, k_X12_field, sv_rd, sv_up, lt_sv, map_bd1, map_bd2, map_gd, map_lt, map_ite, map_sm, bd1_map, bd2_map, sw_mk]
set_option maxHeartbeats 1000000 in
theorem k_X12_appendWord_b3 (a1 : Int32) : ∀ (n : Nat) (e1 : Mem) (e2 : Int32), X12_appendWord_b3 a1 n (sv v e1) e2 = Option.map (sv v) (X12_appendWord_b3 a1 n e1 e2) := by
  intro n
  induction n with
  | zero => intros; rfl
  | succ n ih =>
    intro e1 e2
    simp only [X12_appendWord_b3, ih, sv_rd, sv_up, lt_sv, map_bd1, map_bd2, map_gd, map_lt, map_ite, map_sm, bd1_map, bd2_map, sw_mk]
set_option maxHeartbeats 1000000 in
theorem k_X12_appendWord (Y : Mem) (a1 : Int32) : X12_appendWord (sv v Y) a1 = Option.map (sv v) (X12_appendWord Y a1) := by
  simp only [X12_appendWord, k_X12_appendWord_b3, sv_rd, sv_up, lt_sv, map_bd1, map_bd2, map_gd, map_lt, map_ite, map_sm, bd1_map, bd2_map, sw_mk]
set_option maxHeartbeats 1000000 in
theorem k_X12_append_b19 (a1 : Int32) (a2 : Int32) (a3 : Int32) (a4 : Int32) (a5 : Int32) (Y : Mem) (s0 : Int32) : X12_append_b19 a1 a2 a3 a4 a5 (sv v Y) s0 = Option.map (sw v) (X12_append_b19 a1 a2 a3 a4 a5 Y s0) := by
  simp only [X12_append_b19, k_X12_fails, k_X12_appendWord, sv_rd, sv_up, lt_sv, map_bd1, map_bd2, map_gd, map_lt, map_ite, map_sm, bd1_map, bd2_map, sw_mk]
set_option maxHeartbeats 1000000 in
theorem k_X12_append (Y : Mem) (a1 : Int32) (a2 : Int32) (a3 : Int32) (a4 : Int32) (a5 : Int32) : X12_append (sv v Y) a1 a2 a3 a4 a5 = Option.map (sw v) (X12_append Y a1 a2 a3 a4 a5) := by
  simp only [X12_append, k_X12_append_b19, sv_rd, sv_up, lt_sv, map_bd1, map_bd2, map_gd, map_lt, map_ite, map_sm, bd1_map, bd2_map, sw_mk]
set_option maxHeartbeats 1000000 in
theorem k_X12_isSmall (Y : Mem) (a0 : Int32) : X12_isSmall (sv v Y) a0 = (X12_isSmall Y a0) := by
  simp only [X12_isSmall, sv_rd, sv_up, lt_sv, map_bd1, map_bd2, map_gd, map_lt, map_ite, map_sm, bd1_map, bd2_map, sw_mk]
set_option maxHeartbeats 1000000 in
theorem k_X12_isDigit (Y : Mem) (a0 : Int32) : X12_isDigit (sv v Y) a0 = (X12_isDigit Y a0) := by
  simp only [X12_isDigit, sv_rd, sv_up, lt_sv, map_bd1, map_bd2, map_gd, map_lt, map_ite, map_sm, bd1_map, bd2_map, sw_mk]
set_option maxHeartbeats 1000000 in
theorem k_X12_token_b294 (Y : Mem) (s0 : Int32) : X12_token_b294 (sv v Y) s0 = Option.map (sv v) (X12_token_b294 Y s0) := by
  simp only [X12_token_b294, sv_rd, sv_up, lt_sv, map_bd1, map_bd2, map_gd, map_lt, map_ite, map_sm, bd1_map, bd2_map, sw_mk]
set_option maxHeartbeats 1000000 in
theorem k_X12_token_b270 (Y : Mem) (s0 : Int32) : X12_token_b270 (sv v Y) s0 = Option.map (sv v) (X12_token_b270 Y s0) := by
  simp only [X12_token_b270, sv_rd, sv_up, lt_sv, map_bd1, map_bd2, map_gd, map_lt, map_ite, map_sm, bd1_map, bd2_map, sw_mk]
set_option maxHeartbeats 1000000 in
theorem k_X12_token_b251 (Y : Mem) : X12_token_b251 (sv v Y) = Option.map (sv v) (X12_token_b251 Y) := by
  simp only [X12_token_b251, k_X12_token_b270, sv_rd, sv_up, lt_sv, map_bd1, map_bd2, map_gd, map_lt, map_ite, map_sm, bd1_map, bd2_map, sw_mk]
set_option maxHeartbeats 1000000 in
theorem k_X12_token_b238 {k175 k175_ : Mem → Option (Mem)} (hk175 : ∀ (x0 : Mem), k175_ (sv v x0) = Option.map (sv v) (k175 x0)) (Y : Mem) : X12_token_b238 k175_ (sv v Y) = Option.map (sv v) (X12_token_b238 k175 Y) := by
  simp only [X12_token_b238, hk175, sv_rd, sv_up, lt_sv, map_bd1, map_bd2, map_gd, map_lt, map_ite, map_sm, bd1_map, bd2_map, sw_mk]
set_option maxHeartbeats 1000000 in
theorem k_X12_token_b175  : ∀ (n : Nat) (e1 : Mem), X12_token_b175 n (sv v e1) = Option.map (sv v) (X12_token_b175 n e1) := by
  intro n
  induction n with
  | zero => intros; rfl
  | succ n ih =>
    intro e1
    simp only [X12_token_b175, k_X12_token_b251, k_X12_isDigit, k_X12_token_b238 ih, ih, sv_rd, sv_up, lt_sv, map_bd1, map_bd2, map_gd, map_lt, map_ite, map_sm, bd1_map, bd2_map, sw_mk]
set_option maxHeartbeats 1000000 in
theorem k_X12_token_b151 (Y : Mem) (s0 : Int32) : X12_token_b151 (sv v Y) s0 = Option.map (sv v) (X12_token_b151 Y s0) := by
  simp only [X12_token_b151, sv_rd, sv_up, lt_sv, map_bd1, map_bd2, map_gd, map_lt, map_ite, map_sm, bd1_map, bd2_map, sw_mk]
set_option maxHeartbeats 1000000 in
theorem k_X12_token_b131 (Y : Mem) : X12_token_b131 (sv v Y) = Option.map (sv v) (X12_token_b131 Y) := by
  simp only [X12_token_b131, k_X12_token_b151, sv_rd, sv_up, lt_sv, map_bd1, map_bd2, map_gd, map_lt, map_ite, map_sm, bd1_map, bd2_map, sw_mk]
set_option maxHeartbeats 1000000 in
theorem k_X12_token_b92  : ∀ (n : Nat) (e1 : Mem), X12_token_b92 n (sv v e1) = Option.map (sv v) (X12_token_b92 n e1) := by
  intro n
  induction n with
  | zero => intros; rfl
  | succ n ih =>
    intro e1
    simp only [X12_token_b92, k_X12_token_b131, k_X12_isSmall, ih, sv_rd, sv_up, lt_sv, map_bd1, map_bd2, map_gd, map_lt, map_ite, map_sm, bd1_map, bd2_map, sw_mk]
set_option maxHeartbeats 1000000 in
theorem k_X12_token_b52 (Y : Mem) : X12_token_b52 (sv v Y) = Option.map (sv v) (X12_token_b52 Y) := by
  simp only [X12_token_b52, k_X12_isSmall, k_X12_isDigit, k_X12_token_b294, k_X12_token_b175, k_X12_token_b92, sv_rd, sv_up, lt_sv, map_bd1, map_bd2, map_gd, map_lt, map_ite, map_sm, bd1_map, bd2_map, sw_mk]
set_option maxHeartbeats 1000000 in
theorem k_X12_token_b39 {k0 k0_ : Mem → Option (Mem)} (hk0 : ∀ (x0 : Mem), k0_ (sv v x0) = Option.map (sv v) (k0 x0)) (Y : Mem) : X12_token_b39 k0_ (sv v Y) = Option.map (sv v) (X12_token_b39 k0 Y) := by
  simp only [X12_token_b39, hk0, sv_rd, sv_up, lt_sv, map_bd1, map_bd2, map_gd, map_lt, map_ite, map_sm, bd1_map, bd2_map, sw_mk]
set_option maxHeartbeats 1000000 in
theorem k_X12_token_b0  : ∀ (n : Nat) (e1 : Mem), X12_token_b0 n (sv v e1) = Option.map (sv v) (X12_token_b0 n e1) := by
  intro n
  induction n with
  | zero => intros; rfl
  | succ n ih =>
    intro e1
    simp only [X12_token_b0, k_X12_token_b52, k_X12_token_b39 ih, ih, sv_rd, sv_up, lt_sv, map_bd1, map_bd2, map_gd, map_lt, map_ite, map_sm, bd1_map, bd2_map, sw_mk]
set_option maxHeartbeats 1000000 in
theorem k_X12_token (Y : Mem) : X12_token (sv v Y) = Option.map (sv v) (X12_token Y) := by
  simp only [X12_token, k_X12_token_b0, sv_rd, sv_up, lt_sv, map_bd1, map_bd2, map_gd, map_lt, map_ite, map_sm, bd1_map, bd2_map, sw_mk]
set_option maxHeartbeats 1000000 in
theorem k_X12_begin (Y : Mem) : X12_begin (sv v Y) = Option.map (sv v) (X12_begin Y) := by
  simp only [X12_begin, k_X12_token, sv_rd, sv_up, lt_sv, map_bd1, map_bd2, map_gd, map_lt, map_ite, map_sm, bd1_map, bd2_map, sw_mk]
set_option maxHeartbeats 1000000 in
theorem k_X12_firstOpen_b2 (Y : Mem) (a1 : Int32) : ∀ (n : Nat) (e1 : Int32), X12_firstOpen_b2 (sv v Y) a1 n e1 = (X12_firstOpen_b2 Y a1 n e1) := by
  intro n
  induction n with
  | zero => intros; rfl
  | succ n ih =>
    intro e1
    simp only [X12_firstOpen_b2, k_X12_of, ih, sv_rd, sv_up, lt_sv, map_bd1, map_bd2, map_gd, map_lt, map_ite, map_sm, bd1_map, bd2_map, sw_mk]
set_option maxHeartbeats 1000000 in
theorem k_X12_firstOpen (Y : Mem) (a1 : Int32) : X12_firstOpen (sv v Y) a1 = (X12_firstOpen Y a1) := by
  simp only [X12_firstOpen, k_X12_firstOpen_b2, sv_rd, sv_up, lt_sv, map_bd1, map_bd2, map_gd, map_lt, map_ite, map_sm, bd1_map, bd2_map, sw_mk]
set_option maxHeartbeats 1000000 in
theorem k_X12_isPredecessor_b2 (Y : Mem) (a1 : Int32) (a2 : Int32) : ∀ (n : Nat) (e1 : Int32), X12_isPredecessor_b2 (sv v Y) a1 a2 n e1 = (X12_isPredecessor_b2 Y a1 a2 n e1) := by
  intro n
  induction n with
  | zero => intros; rfl
  | succ n ih =>
    intro e1
    simp only [X12_isPredecessor_b2, k_X12_of, ih, sv_rd, sv_up, lt_sv, map_bd1, map_bd2, map_gd, map_lt, map_ite, map_sm, bd1_map, bd2_map, sw_mk]
set_option maxHeartbeats 1000000 in
theorem k_X12_isPredecessor (Y : Mem) (a1 : Int32) (a2 : Int32) : X12_isPredecessor (sv v Y) a1 a2 = (X12_isPredecessor Y a1 a2) := by
  simp only [X12_isPredecessor, k_X12_isPredecessor_b2, sv_rd, sv_up, lt_sv, map_bd1, map_bd2, map_gd, map_lt, map_ite, map_sm, bd1_map, bd2_map, sw_mk]
set_option maxHeartbeats 1000000 in
theorem k_X12_hasSuccessor_b53 {k5 k5_ : Int32 → Option (Int32)} (hk5 : ∀ (x0 : Int32), k5_ x0 = (k5 x0)) (Y : Mem) (a1 : Int32) (a2 : Int32) (a3 : Int32) (l4 : Int32) : X12_hasSuccessor_b53 (sv v Y) a1 a2 a3 k5_ l4 = (X12_hasSuccessor_b53 Y a1 a2 a3 k5 l4) := by
  simp only [X12_hasSuccessor_b53, hk5, sv_rd, sv_up, lt_sv, map_bd1, map_bd2, map_gd, map_lt, map_ite, map_sm, bd1_map, bd2_map, sw_mk]
set_option maxHeartbeats 1000000 in
theorem k_X12_hasSuccessor_b5 (Y : Mem) (a1 : Int32) (a2 : Int32) (a3 : Int32) : ∀ (n : Nat) (e1 : Int32), X12_hasSuccessor_b5 (sv v Y) a1 a2 a3 n e1 = (X12_hasSuccessor_b5 Y a1 a2 a3 n e1) := by
  intro n
  induction n with
  | zero => intros; rfl
  | succ n ih =>
    intro e1
    simp only [X12_hasSuccessor_b5, k_X12_isPredecessor, k_X12_of, k_X12_hasSuccessor_b53 ih, ih, sv_rd, sv_up, lt_sv, map_bd1, map_bd2, map_gd, map_lt, map_ite, map_sm, bd1_map, bd2_map, sw_mk]
set_option maxHeartbeats 1000000 in
theorem k_X12_hasSuccessor (Y : Mem) (a1 : Int32) (a2 : Int32) (a3 : Int32) : X12_hasSuccessor (sv v Y) a1 a2 a3 = (X12_hasSuccessor Y a1 a2 a3) := by
  simp only [X12_hasSuccessor, k_X12_hasSuccessor_b5, sv_rd, sv_up, lt_sv, map_bd1, map_bd2, map_gd, map_lt, map_ite, map_sm, bd1_map, bd2_map, sw_mk]
set_option maxHeartbeats 1000000 in
theorem k_X12_occupies_b45 (Y : Mem) (a1 : Int32) (a2 : Int32) : X12_occupies_b45 (sv v Y) a1 a2 = (X12_occupies_b45 Y a1 a2) := by
  simp only [X12_occupies_b45, sv_rd, sv_up, lt_sv, map_bd1, map_bd2, map_gd, map_lt, map_ite, map_sm, bd1_map, bd2_map, sw_mk]
set_option maxHeartbeats 1000000 in
theorem k_X12_occupies (Y : Mem) (a1 : Int32) (a2 : Int32) : X12_occupies (sv v Y) a1 a2 = (X12_occupies Y a1 a2) := by
  simp only [X12_occupies, k_X12_of, k_X12_occupies_b45, k_X12_hasSuccessor, sv_rd, sv_up, lt_sv, map_bd1, map_bd2, map_gd, map_lt, map_ite, map_sm, bd1_map, bd2_map, sw_mk]
set_option maxHeartbeats 1000000 in
theorem k_X12_usedPans_b30 {k4 k4_ : Int32 → Int32 → Option (Int32)} (hk4 : ∀ (x0 : Int32) (x1 : Int32), k4_ x0 x1 = (k4 x0 x1)) (Y : Mem) (a1 : Int32) (l3 : Int32) (s0 : Int32) (s1 : Int32) : X12_usedPans_b30 (sv v Y) a1 k4_ l3 s0 s1 = (X12_usedPans_b30 Y a1 k4 l3 s0 s1) := by
  simp only [X12_usedPans_b30, hk4, sv_rd, sv_up, lt_sv, map_bd1, map_bd2, map_gd, map_lt, map_ite, map_sm, bd1_map, bd2_map, sw_mk]
set_option maxHeartbeats 1000000 in
theorem k_X12_usedPans_b4 (Y : Mem) (a1 : Int32) : ∀ (n : Nat) (e1 : Int32) (e2 : Int32), X12_usedPans_b4 (sv v Y) a1 n e1 e2 = (X12_usedPans_b4 Y a1 n e1 e2) := by
  intro n
  induction n with
  | zero => intros; rfl
  | succ n ih =>
    intro e1 e2
    simp only [X12_usedPans_b4, k_X12_occupies, k_X12_usedPans_b30 ih, ih, sv_rd, sv_up, lt_sv, map_bd1, map_bd2, map_gd, map_lt, map_ite, map_sm, bd1_map, bd2_map, sw_mk]
set_option maxHeartbeats 1000000 in
theorem k_X12_usedPans (Y : Mem) (a1 : Int32) : X12_usedPans (sv v Y) a1 = (X12_usedPans Y a1) := by
  simp only [X12_usedPans, k_X12_usedPans_b4, sv_rd, sv_up, lt_sv, map_bd1, map_bd2, map_gd, map_lt, map_ite, map_sm, bd1_map, bd2_map, sw_mk]
set_option maxHeartbeats 1000000 in
theorem k_X12_capacity (Y : Mem) (a1 : Int32) : X12_capacity (sv v Y) a1 = (X12_capacity Y a1) := by
  simp only [X12_capacity, sv_rd, sv_up, lt_sv, map_bd1, map_bd2, map_gd, map_lt, map_ite, map_sm, bd1_map, bd2_map, sw_mk]
set_option maxHeartbeats 1000000 in
theorem k_X12_hasPan_b26 (Y : Mem) (a1 : Int32) : X12_hasPan_b26 (sv v Y) a1 = (X12_hasPan_b26 Y a1) := by
  simp only [X12_hasPan_b26, sv_rd, sv_up, lt_sv, map_bd1, map_bd2, map_gd, map_lt, map_ite, map_sm, bd1_map, bd2_map, sw_mk]
set_option maxHeartbeats 1000000 in
theorem k_X12_hasPan (Y : Mem) (a1 : Int32) : X12_hasPan (sv v Y) a1 = (X12_hasPan Y a1) := by
  simp only [X12_hasPan, k_X12_of, k_X12_hasPan_b26, k_X12_usedPans, k_X12_capacity, sv_rd, sv_up, lt_sv, map_bd1, map_bd2, map_gd, map_lt, map_ite, map_sm, bd1_map, bd2_map, sw_mk]
set_option maxHeartbeats 1000000 in
theorem k_X12_isCooked (Y : Mem) (a1 : Int32) : X12_isCooked (sv v Y) a1 = (X12_isCooked Y a1) := by
  simp only [X12_isCooked, k_X12_of, sv_rd, sv_up, lt_sv, map_bd1, map_bd2, map_gd, map_lt, map_ite, map_sm, bd1_map, bd2_map, sw_mk]
set_option maxHeartbeats 1000000 in
theorem k_X12_hasCook_b58 (Y : Mem) (a1 : Int32) : X12_hasCook_b58 (sv v Y) a1 = (X12_hasCook_b58 Y a1) := by
  simp only [X12_hasCook_b58, sv_rd, sv_up, lt_sv, map_bd1, map_bd2, map_gd, map_lt, map_ite, map_sm, bd1_map, bd2_map, sw_mk]
set_option maxHeartbeats 1000000 in
theorem k_X12_hasCook_b29 {k4 k4_ : Int32 → Int32 → Option (Int32)} (hk4 : ∀ (x0 : Int32) (x1 : Int32), k4_ x0 x1 = (k4 x0 x1)) (Y : Mem) (a1 : Int32) (l3 : Int32) (s0 : Int32) (s1 : Int32) : X12_hasCook_b29 (sv v Y) a1 k4_ l3 s0 s1 = (X12_hasCook_b29 Y a1 k4 l3 s0 s1) := by
  simp only [X12_hasCook_b29, hk4, sv_rd, sv_up, lt_sv, map_bd1, map_bd2, map_gd, map_lt, map_ite, map_sm, bd1_map, bd2_map, sw_mk]
set_option maxHeartbeats 1000000 in
theorem k_X12_hasCook_b4 (Y : Mem) (a1 : Int32) : ∀ (n : Nat) (e1 : Int32) (e2 : Int32), X12_hasCook_b4 (sv v Y) a1 n e1 e2 = (X12_hasCook_b4 Y a1 n e1 e2) := by
  intro n
  induction n with
  | zero => intros; rfl
  | succ n ih =>
    intro e1 e2
    simp only [X12_hasCook_b4, k_X12_of, k_X12_hasCook_b58, k_X12_isCooked, k_X12_hasCook_b29 ih, ih, sv_rd, sv_up, lt_sv, map_bd1, map_bd2, map_gd, map_lt, map_ite, map_sm, bd1_map, bd2_map, sw_mk]
set_option maxHeartbeats 1000000 in
theorem k_X12_hasCook (Y : Mem) (a1 : Int32) : X12_hasCook (sv v Y) a1 = (X12_hasCook Y a1) := by
  simp only [X12_hasCook, k_X12_hasCook_b4, sv_rd, sv_up, lt_sv, map_bd1, map_bd2, map_gd, map_lt, map_ite, map_sm, bd1_map, bd2_map, sw_mk]
set_option maxHeartbeats 1000000 in
theorem k_X12_reasonFor (Y : Mem) (a1 : Int32) : X12_reasonFor (sv v Y) a1 = (X12_reasonFor Y a1) := by
  simp only [X12_reasonFor, k_X12_of, k_X12_firstOpen, k_X12_hasPan, k_X12_hasCook, sv_rd, sv_up, lt_sv, map_bd1, map_bd2, map_gd, map_lt, map_ite, map_sm, bd1_map, bd2_map, sw_mk]
set_option maxHeartbeats 1000000 in
theorem k_X12_blocker_b65 {k19 k19_ : Int32 → Int32 → Option (Int32)} (hk19 : ∀ (x0 : Int32) (x1 : Int32), k19_ x0 x1 = (k19 x0 x1)) (Y : Mem) (a1 : Int32) (l3 : Int32) (l2 : Int32) : X12_blocker_b65 (sv v Y) a1 k19_ l3 l2 = (X12_blocker_b65 Y a1 k19 l3 l2) := by
  simp only [X12_blocker_b65, hk19, sv_rd, sv_up, lt_sv, map_bd1, map_bd2, map_gd, map_lt, map_ite, map_sm, bd1_map, bd2_map, sw_mk]
set_option maxHeartbeats 1000000 in
theorem k_X12_blocker_b50 {k19 k19_ : Int32 → Int32 → Option (Int32)} (hk19 : ∀ (x0 : Int32) (x1 : Int32), k19_ x0 x1 = (k19 x0 x1)) (Y : Mem) (a1 : Int32) (l3 : Int32) (l2 : Int32) : X12_blocker_b50 (sv v Y) a1 k19_ l3 l2 = (X12_blocker_b50 Y a1 k19 l3 l2) := by
  simp only [X12_blocker_b50, k_X12_isCooked, hk19, k_X12_blocker_b65 hk19, sv_rd, sv_up, lt_sv, map_bd1, map_bd2, map_gd, map_lt, map_ite, map_sm, bd1_map, bd2_map, sw_mk]
set_option maxHeartbeats 1000000 in
theorem k_X12_blocker_b19 (Y : Mem) (a1 : Int32) : ∀ (n : Nat) (e1 : Int32) (e2 : Int32), X12_blocker_b19 (sv v Y) a1 n e1 e2 = (X12_blocker_b19 Y a1 n e1 e2) := by
  intro n
  induction n with
  | zero => intros; rfl
  | succ n ih =>
    intro e1 e2
    simp only [X12_blocker_b19, k_X12_of, k_X12_occupies, k_X12_blocker_b50 ih, ih, sv_rd, sv_up, lt_sv, map_bd1, map_bd2, map_gd, map_lt, map_ite, map_sm, bd1_map, bd2_map, sw_mk]
set_option maxHeartbeats 1000000 in
theorem k_X12_blocker (Y : Mem) (a1 : Int32) : X12_blocker (sv v Y) a1 = (X12_blocker Y a1) := by
  simp only [X12_blocker, k_X12_reasonFor, k_X12_firstOpen, k_X12_blocker_b19, sv_rd, sv_up, lt_sv, map_bd1, map_bd2, map_gd, map_lt, map_ite, map_sm, bd1_map, bd2_map, sw_mk]
set_option maxHeartbeats 1000000 in
theorem k_X12_blockingStep_b14 (a1 : Int32) (Y : Mem) (s0 : Int32) : X12_blockingStep_b14 a1 (sv v Y) s0 = Option.map (sw v) (X12_blockingStep_b14 a1 Y s0) := by
  simp only [X12_blockingStep_b14, k_X12_fails, k_X12_blocker, sv_rd, sv_up, lt_sv, map_bd1, map_bd2, map_gd, map_lt, map_ite, map_sm, bd1_map, bd2_map, sw_mk]
set_option maxHeartbeats 1000000 in
theorem k_X12_blockingStep (Y : Mem) (a1 : Int32) : X12_blockingStep (sv v Y) a1 = Option.map (sw v) (X12_blockingStep Y a1) := by
  simp only [X12_blockingStep, k_X12_isStep, k_X12_blockingStep_b14, sv_rd, sv_up, lt_sv, map_bd1, map_bd2, map_gd, map_lt, map_ite, map_sm, bd1_map, bd2_map, sw_mk]
set_option maxHeartbeats 1000000 in
theorem k_X12_withStatus_b32 {k4 k4_ : Int32 → Int32 → Option (Int32)} (hk4 : ∀ (x0 : Int32) (x1 : Int32), k4_ x0 x1 = (k4 x0 x1)) (Y : Mem) (a1 : Int32) (l3 : Int32) (s0 : Int32) (s1 : Int32) : X12_withStatus_b32 (sv v Y) a1 k4_ l3 s0 s1 = (X12_withStatus_b32 Y a1 k4 l3 s0 s1) := by
  simp only [X12_withStatus_b32, hk4, sv_rd, sv_up, lt_sv, map_bd1, map_bd2, map_gd, map_lt, map_ite, map_sm, bd1_map, bd2_map, sw_mk]
set_option maxHeartbeats 1000000 in
theorem k_X12_withStatus_b4 (Y : Mem) (a1 : Int32) : ∀ (n : Nat) (e1 : Int32) (e2 : Int32), X12_withStatus_b4 (sv v Y) a1 n e1 e2 = (X12_withStatus_b4 Y a1 n e1 e2) := by
  intro n
  induction n with
  | zero => intros; rfl
  | succ n ih =>
    intro e1 e2
    simp only [X12_withStatus_b4, k_X12_of, k_X12_withStatus_b32 ih, ih, sv_rd, sv_up, lt_sv, map_bd1, map_bd2, map_gd, map_lt, map_ite, map_sm, bd1_map, bd2_map, sw_mk]
set_option maxHeartbeats 1000000 in
theorem k_X12_withStatus (Y : Mem) (a1 : Int32) : X12_withStatus (sv v Y) a1 = (X12_withStatus Y a1) := by
  simp only [X12_withStatus, k_X12_withStatus_b4, sv_rd, sv_up, lt_sv, map_bd1, map_bd2, map_gd, map_lt, map_ite, map_sm, bd1_map, bd2_map, sw_mk]
set_option maxHeartbeats 1000000 in
theorem k_X12_isFinished (Y : Mem) : X12_isFinished (sv v Y) = (X12_isFinished Y) := by
  simp only [X12_isFinished, k_X12_withStatus, sv_rd, sv_up, lt_sv, map_bd1, map_bd2, map_gd, map_lt, map_ite, map_sm, bd1_map, bd2_map, sw_mk]
set_option maxHeartbeats 1000000 in
theorem k_X12_set (Y : Mem) (a1 : Int32) (a2 : Int32) (a3 : Int32) : X12_set (sv v Y) a1 a2 a3 = Option.map (sv v) (X12_set Y a1 a2 a3) := by
  simp only [X12_set, sv_rd, sv_up, lt_sv, map_bd1, map_bd2, map_gd, map_lt, map_ite, map_sm, bd1_map, bd2_map, sw_mk]
set_option maxHeartbeats 1000000 in
theorem k_X12_work (Y : Mem) (a1 : Int32) : X12_work (sv v Y) a1 = Option.map (sv v) (X12_work Y a1) := by
  simp only [X12_work, k_X12_set, k_X12_of, sv_rd, sv_up, lt_sv, map_bd1, map_bd2, map_gd, map_lt, map_ite, map_sm, bd1_map, bd2_map, sw_mk]
set_option maxHeartbeats 1000000 in
theorem k_X12_isTaken (Y : Mem) (a1 : Int32) : X12_isTaken (sv v Y) a1 = (X12_isTaken Y a1) := by
  simp only [X12_isTaken, k_X12_of, k_X12_hasSuccessor, sv_rd, sv_up, lt_sv, map_bd1, map_bd2, map_gd, map_lt, map_ite, map_sm, bd1_map, bd2_map, sw_mk]
set_option maxHeartbeats 1000000 in
theorem k_X12_cool (Y : Mem) (a1 : Int32) : X12_cool (sv v Y) a1 = Option.map (sv v) (X12_cool Y a1) := by
  simp only [X12_cool, k_X12_of, k_X12_isTaken, k_X12_set, sv_rd, sv_up, lt_sv, map_bd1, map_bd2, map_gd, map_lt, map_ite, map_sm, bd1_map, bd2_map, sw_mk]
set_option maxHeartbeats 1000000 in
theorem k_X12_computePaths_b57 {k20 k20_ : Mem → Int32 → Int32 → Int32 → Option (Mem)} (hk20 : ∀ (x0 : Mem) (x1 : Int32) (x2 : Int32) (x3 : Int32), k20_ (sv v x0) x1 x2 x3 = Option.map (sv v) (k20 x0 x1 x2 x3)) (Y : Mem) (l3 : Int32) (l2 : Int32) (l1 : Int32) : X12_computePaths_b57 k20_ (sv v Y) l3 l2 l1 = Option.map (sv v) (X12_computePaths_b57 k20 Y l3 l2 l1) := by
  simp only [X12_computePaths_b57, hk20, sv_rd, sv_up, lt_sv, map_bd1, map_bd2, map_gd, map_lt, map_ite, map_sm, bd1_map, bd2_map, sw_mk]
end
