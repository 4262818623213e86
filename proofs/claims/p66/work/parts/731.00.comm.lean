/-! PHASE 3: THE REFERENCE DOES NOT LOOK AT THE LAW'S OWN CELL -/
section
variable {v : Mem}
set_option maxHeartbeats 1000000 in
theorem k_X12_in (Y : Mem) (a0 : Int32) (a1 : Int32) (a2 : Int32) : M12_in (sv v Y) a0 a1 a2 = (M12_in Y a0 a1 a2) := by
  simp only [M12_in, sv_rd, sv_up, lt_sv, map_bd1, map_bd2, map_gd, map_lt, map_ite, map_sm, bd1_map, bd2_map, sw_mk]
set_option maxHeartbeats 1000000 in
theorem k_X12_fails_b26 (a1 : Int32) (a2 : Int32) (a3 : Int32) (Y : Mem) (s0 : Int32) : M12_fails_b26 a1 a2 a3 (sv v Y) s0 = Option.map (sw v) (M12_fails_b26 a1 a2 a3 Y s0) := by
  simp only [M12_fails_b26, sv_rd, sv_up, lt_sv, map_bd1, map_bd2, map_gd, map_lt, map_ite, map_sm, bd1_map, bd2_map, sw_mk]
set_option maxHeartbeats 1000000 in
theorem k_X12_fails (Y : Mem) (a1 : Int32) (a2 : Int32) (a3 : Int32) : M12_fails (sv v Y) a1 a2 a3 = Option.map (sw v) (M12_fails Y a1 a2 a3) := by
  simp only [M12_fails, k_X12_fails_b26, sv_rd, sv_up, lt_sv, map_bd1, map_bd2, map_gd, map_lt, map_ite, map_sm, bd1_map, bd2_map, sw_mk]
set_option maxHeartbeats 1000000 in
theorem k_X12_copyBlock_b2 (a1 : Int32) (a2 : Int32) : ∀ (n : Nat) (e1 : Mem) (e2 : Int32), M12_copyBlock_b2 a1 a2 n (sv v e1) e2 = Option.map (sv v) (M12_copyBlock_b2 a1 a2 n e1 e2) := by
  intro n
  induction n with
  | zero => intros; rfl
  | succ n ih =>
    intro e1 e2
    simp only [M12_copyBlock_b2, ih, sv_rd, sv_up, lt_sv, map_bd1, map_bd2, map_gd, map_lt, map_ite, map_sm, bd1_map, bd2_map, sw_mk]
set_option maxHeartbeats 1000000 in
theorem k_X12_copyBlock (Y : Mem) (a1 : Int32) (a2 : Int32) : M12_copyBlock (sv v Y) a1 a2 = Option.map (sv v) (M12_copyBlock Y a1 a2) := by
  simp only [M12_copyBlock, k_X12_copyBlock_b2, sv_rd, sv_up, lt_sv, map_bd1, map_bd2, map_gd, map_lt, map_ite, map_sm, bd1_map, bd2_map, sw_mk]
set_option maxHeartbeats 1000000 in
theorem k_X12_remember_b41 (a1 : Int32) (Y : Mem) : M12_remember_b41 a1 (sv v Y) = Option.map (sv v) (M12_remember_b41 a1 Y) := by
  simp only [M12_remember_b41, k_X12_copyBlock, sv_rd, sv_up, lt_sv, map_bd1, map_bd2, map_gd, map_lt, map_ite, map_sm, bd1_map, bd2_map, sw_mk]
set_option maxHeartbeats 1000000 in
theorem k_X12_remember_b11 (a1 : Int32) : ∀ (n : Nat) (e1 : Mem) (e2 : Int32), M12_remember_b11 a1 n (sv v e1) e2 = Option.map (sv v) (M12_remember_b11 a1 n e1 e2) := by
  intro n
  induction n with
  | zero => intros; rfl
  | succ n ih =>
    intro e1 e2
    simp only [M12_remember_b11, k_X12_remember_b41, k_X12_copyBlock, ih, sv_rd, sv_up, lt_sv, map_bd1, map_bd2, map_gd, map_lt, map_ite, map_sm, bd1_map, bd2_map, sw_mk]
set_option maxHeartbeats 1000000 in
theorem k_X12_remember (Y : Mem) (a1 : Int32) : M12_remember (sv v Y) a1 = Option.map (sv v) (M12_remember Y a1) := by
  simp only [M12_remember, k_X12_remember_b11, k_X12_remember_b41, sv_rd, sv_up, lt_sv, map_bd1, map_bd2, map_gd, map_lt, map_ite, map_sm, bd1_map, bd2_map, sw_mk]
set_option maxHeartbeats 1000000 in
theorem k_X12_of (Y : Mem) (a1 : Int32) (a2 : Int32) : M12_of (sv v Y) a1 a2 = (M12_of Y a1 a2) := by
  simp only [M12_of, sv_rd, sv_up, lt_sv, map_bd1, map_bd2, map_gd, map_lt, map_ite, map_sm, bd1_map, bd2_map, sw_mk]
set_option maxHeartbeats 1000000 in
theorem k_X12_tasteNow_b43 {k9 k9_ : Int32 → Int32 → Option (Int32)} (hk9 : ∀ (x0 : Int32) (x1 : Int32), k9_ x0 x1 = (k9 x0 x1)) (Y : Mem) (l2 : Int32) (s0 : Int32) (s1 : Int32) : M12_tasteNow_b43 (sv v Y) k9_ l2 s0 s1 = (M12_tasteNow_b43 Y k9 l2 s0 s1) := by
  simp only [M12_tasteNow_b43, hk9, sv_rd, sv_up, lt_sv, map_bd1, map_bd2, map_gd, map_lt, map_ite, map_sm, bd1_map, bd2_map, sw_mk]
set_option maxHeartbeats 1000000 in
theorem k_X12_tasteNow_b9 (Y : Mem) : ∀ (n : Nat) (e1 : Int32) (e2 : Int32), M12_tasteNow_b9 (sv v Y) n e1 e2 = (M12_tasteNow_b9 Y n e1 e2) := by
  intro n
  induction n with
  | zero => intros; rfl
  | succ n ih =>
    intro e1 e2
    simp only [M12_tasteNow_b9, k_X12_of, k_X12_tasteNow_b43 ih, ih, sv_rd, sv_up, lt_sv, map_bd1, map_bd2, map_gd, map_lt, map_ite, map_sm, bd1_map, bd2_map, sw_mk]
set_option maxHeartbeats 1000000 in
theorem k_X12_tasteNow (Y : Mem) : M12_tasteNow (sv v Y) = (M12_tasteNow Y) := by
  simp only [M12_tasteNow, k_X12_tasteNow_b9, sv_rd, sv_up, lt_sv, map_bd1, map_bd2, map_gd, map_lt, map_ite, map_sm, bd1_map, bd2_map, sw_mk]
set_option maxHeartbeats 1000000 in
theorem k_X12_addSalt_b37 (a1 : Int32) (Y : Mem) (s0 : Int32) (s1 : Int32) : M12_addSalt_b37 a1 (sv v Y) s0 s1 = Option.map (sw v) (M12_addSalt_b37 a1 Y s0 s1) := by
  simp only [M12_addSalt_b37, k_X12_fails, k_X12_remember, k_X12_tasteNow, sv_rd, sv_up, lt_sv, map_bd1, map_bd2, map_gd, map_lt, map_ite, map_sm, bd1_map, bd2_map, sw_mk]
set_option maxHeartbeats 1000000 in
theorem k_X12_addSalt_b21 (a1 : Int32) (Y : Mem) (s0 : Int32) : M12_addSalt_b21 a1 (sv v Y) s0 = Option.map (sw v) (M12_addSalt_b21 a1 Y s0) := by
  simp only [M12_addSalt_b21, k_X12_addSalt_b37, sv_rd, sv_up, lt_sv, map_bd1, map_bd2, map_gd, map_lt, map_ite, map_sm, bd1_map, bd2_map, sw_mk]
set_option maxHeartbeats 1000000 in
theorem k_X12_addSalt_b16 (a1 : Int32) (Y : Mem) : M12_addSalt_b16 a1 (sv v Y) = Option.map (sw v) (M12_addSalt_b16 a1 Y) := by
  simp only [M12_addSalt_b16, k_X12_addSalt_b21, sv_rd, sv_up, lt_sv, map_bd1, map_bd2, map_gd, map_lt, map_ite, map_sm, bd1_map, bd2_map, sw_mk]
set_option maxHeartbeats 1000000 in
theorem k_X12_addSalt (Y : Mem) (a1 : Int32) : M12_addSalt (sv v Y) a1 = Option.map (sw v) (M12_addSalt Y a1) := by
  simp only [M12_addSalt, k_X12_in, k_X12_addSalt_b16, k_X12_addSalt_b21, sv_rd, sv_up, lt_sv, map_bd1, map_bd2, map_gd, map_lt, map_ite, map_sm, bd1_map, bd2_map, sw_mk]
set_option maxHeartbeats 1000000 in
theorem k_X12_isStep (Y : Mem) (a1 : Int32) : M12_isStep (sv v Y) a1 = (M12_isStep Y a1) := by
  simp only [M12_isStep, k_X12_in, sv_rd, sv_up, lt_sv, map_bd1, map_bd2, map_gd, map_lt, map_ite, map_sm, bd1_map, bd2_map, sw_mk]
set_option maxHeartbeats 1000000 in
theorem k_X12_field_b14 (a1 : Int32) (a2 : Int32) (Y : Mem) (s0 : Int32) : M12_field_b14 a1 a2 (sv v Y) s0 = Option.map (sw v) (M12_field_b14 a1 a2 Y s0) := by
  simp only [M12_field_b14, k_X12_fails, k_X12_of, sv_rd, sv_up, lt_sv, map_bd1, map_bd2, map_gd, map_lt, map_ite, map_sm, bd1_map, bd2_map, sw_mk]
set_option maxHeartbeats 1000000 in
theorem k_X12_field (Y : Mem) (a1 : Int32) (a2 : Int32) : M12_field (sv v Y) a1 a2 = Option.map (sw v) (M12_field Y a1 a2) := by
  simp only [M12_field, k_X12_isStep, k_X12_field_b14, sv_rd, sv_up, lt_sv, map_bd1, map_bd2, map_gd, map_lt, map_ite, map_sm, bd1_map, bd2_map, sw_mk]
set_option maxHeartbeats 1000000 in
theorem k_X12_age (Y : Mem) (a1 : Int32) : M12_age (sv v Y) a1 = Option.map (sw v) (M12_age Y a1) := by
  simp only [M12_age, k_X12_field, sv_rd, sv_up, lt_sv, map_bd1, map_bd2, map_gd, map_lt, map_ite, map_sm, bd1_map, bd2_map, sw_mk]
set_option maxHeartbeats 1000000 in
theorem k_X12_appendWord_b3 (a1 : Int32) : ∀ (n : Nat) (e1 : Mem) (e2 : Int32), M12_appendWord_b3 a1 n (sv v e1) e2 = Option.map (sv v) (M12_appendWord_b3 a1 n e1 e2) := by
  intro n
  induction n with
  | zero => intros; rfl
  | succ n ih =>
    intro e1 e2
    simp only [M12_appendWord_b3, ih, sv_rd, sv_up, lt_sv, map_bd1, map_bd2, map_gd, map_lt, map_ite, map_sm, bd1_map, bd2_map, sw_mk]
set_option maxHeartbeats 1000000 in
theorem k_X12_appendWord (Y : Mem) (a1 : Int32) : M12_appendWord (sv v Y) a1 = Option.map (sv v) (M12_appendWord Y a1) := by
  simp only [M12_appendWord, k_X12_appendWord_b3, sv_rd, sv_up, lt_sv, map_bd1, map_bd2, map_gd, map_lt, map_ite, map_sm, bd1_map, bd2_map, sw_mk]
set_option maxHeartbeats 1000000 in
theorem k_X12_append_b19 (a1 : Int32) (a2 : Int32) (a3 : Int32) (a4 : Int32) (a5 : Int32) (Y : Mem) (s0 : Int32) : M12_append_b19 a1 a2 a3 a4 a5 (sv v Y) s0 = Option.map (sw v) (M12_append_b19 a1 a2 a3 a4 a5 Y s0) := by
  simp only [M12_append_b19, k_X12_fails, k_X12_appendWord, sv_rd, sv_up, lt_sv, map_bd1, map_bd2, map_gd, map_lt, map_ite, map_sm, bd1_map, bd2_map, sw_mk]
set_option maxHeartbeats 1000000 in
theorem k_X12_append (Y : Mem) (a1 : Int32) (a2 : Int32) (a3 : Int32) (a4 : Int32) (a5 : Int32) : M12_append (sv v Y) a1 a2 a3 a4 a5 = Option.map (sw v) (M12_append Y a1 a2 a3 a4 a5) := by
  simp only [M12_append, k_X12_append_b19, sv_rd, sv_up, lt_sv, map_bd1, map_bd2, map_gd, map_lt, map_ite, map_sm, bd1_map, bd2_map, sw_mk]
set_option maxHeartbeats 1000000 in
theorem k_X12_isSmall (Y : Mem) (a0 : Int32) : M12_isSmall (sv v Y) a0 = (M12_isSmall Y a0) := by
  simp only [M12_isSmall, sv_rd, sv_up, lt_sv, map_bd1, map_bd2, map_gd, map_lt, map_ite, map_sm, bd1_map, bd2_map, sw_mk]
set_option maxHeartbeats 1000000 in
theorem k_X12_isDigit (Y : Mem) (a0 : Int32) : M12_isDigit (sv v Y) a0 = (M12_isDigit Y a0) := by
  simp only [M12_isDigit, sv_rd, sv_up, lt_sv, map_bd1, map_bd2, map_gd, map_lt, map_ite, map_sm, bd1_map, bd2_map, sw_mk]
set_option maxHeartbeats 1000000 in
theorem k_X12_token_b294 (Y : Mem) (s0 : Int32) : M12_token_b294 (sv v Y) s0 = Option.map (sv v) (M12_token_b294 Y s0) := by
  simp only [M12_token_b294, sv_rd, sv_up, lt_sv, map_bd1, map_bd2, map_gd, map_lt, map_ite, map_sm, bd1_map, bd2_map, sw_mk]
set_option maxHeartbeats 1000000 in
theorem k_X12_token_b270 (Y : Mem) (s0 : Int32) : M12_token_b270 (sv v Y) s0 = Option.map (sv v) (M12_token_b270 Y s0) := by
  simp only [M12_token_b270, sv_rd, sv_up, lt_sv, map_bd1, map_bd2, map_gd, map_lt, map_ite, map_sm, bd1_map, bd2_map, sw_mk]
set_option maxHeartbeats 1000000 in
theorem k_X12_token_b251 (Y : Mem) : M12_token_b251 (sv v Y) = Option.map (sv v) (M12_token_b251 Y) := by
  simp only [M12_token_b251, k_X12_token_b270, sv_rd, sv_up, lt_sv, map_bd1, map_bd2, map_gd, map_lt, map_ite, map_sm, bd1_map, bd2_map, sw_mk]
set_option maxHeartbeats 1000000 in
theorem k_X12_token_b238 {k175 k175_ : Mem → Option (Mem)} (hk175 : ∀ (x0 : Mem), k175_ (sv v x0) = Option.map (sv v) (k175 x0)) (Y : Mem) : M12_token_b238 k175_ (sv v Y) = Option.map (sv v) (M12_token_b238 k175 Y) := by
  simp only [M12_token_b238, hk175, sv_rd, sv_up, lt_sv, map_bd1, map_bd2, map_gd, map_lt, map_ite, map_sm, bd1_map, bd2_map, sw_mk]
end
