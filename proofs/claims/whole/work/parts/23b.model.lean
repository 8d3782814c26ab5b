set_option maxRecDepth 100000 in
set_option maxHeartbeats 4000000 in
theorem k_X5_row (l : Launch) (D : va_G) (q : Nat → ClassId) (tt : Nat → Nat) (a : Nat → Nat) (v : MC) (rn : Nat) (x : Int32) (y : Int32) (hrn : (m_rowN v) = nI rn) (hr10 : rn ≤ 10) : MI l D q tt yX5_row wsX5_row ({ frames := 2, cells := 0, slots := 0, locals := 47 } : Room) [.ref (a 0), .int x, .int y] (mw q a v) (fun (r : Int32) (u : Unit) => r = R_row (m_rows v) rn x y) (fun (_ : Unit) => (mw q a v)) 0 0 := by
  refine MI.of RX5 [(0, .ref (a 0)), (1, .int x), (2, .int y)] (by decide) rfl rfl (Nat.le_of_ble_eq_true rfl) rfl ?_
  intro p e s m args below meth c A C hr hnm
  have w_0 : ∀ w ∈ u_ws RX5 TX5 29, w ∈ wsX5_row := by decide +kernel
  have w_1 : Cond.fieldLink RX5 35 (TX5 15).1 (TX5 15).2.1 (TX5 15).2.2.1 ∈ wsX5_row := by decide +kernel
  refine g_aloadn C dX5_row_0 0 rfl rfl ?_
  refine g_iloadn C dX5_row_1 1 rfl rfl ?_
  refine g_iloadn C dX5_row_2 2 rfl rfl ?_
  refine g_callAi C (rd_V C (k_X5_isRow l D q tt a v rn x y hrn (by first | assumption | omega)) gX5_row_X5_isRow rfl rfl rfl 2 ok_X5_isRow rfl 0 rfl rfl (rest := []) rfl rfl (Nat.le_of_ble_eq_true rfl) dX5_row_3 ⟨(Nat.le_of_ble_eq_true rfl), (Nat.le_of_ble_eq_true rfl)⟩ ⟨(Nat.le_of_ble_eq_true rfl), (Nat.le_of_ble_eq_true rfl)⟩) (fun r_3 _ h_3 => ?_)
  obtain rfl := h_3
  refine g_ifeqE C 22 dX5_row_6 rfl rfl (fun c_6 => ?_) (fun c_6 => ?_)
  · refine g_bipush C (-9) dX5_row_22 (by decide) ?_
    exact g_iret C () hr dX5_row_24 (Nat.le_of_ble_eq_true rfl) (Nat.le_of_ble_eq_true rfl) rfl (by unfold R_row; rw [if_neg c_6])
  · obtain ⟨i, hi, ei, ei2⟩ := ix_lt (by omega) c_6.1
    obtain ⟨w, hw_, ew, ew2⟩ := ix_le (n := 2) (by omega) c_6.2
    refine g_aloadn C dX5_row_9 0 rfl rfl ?_
    refine g_get C fx5 w_0 0 15 (v := .ref (a 9)) rfl (by decide) w_1 rfl dX5_row_10 ?_
    refine g_iconst C 3 dX5_row_13 (by decide) ?_
    refine g_iloadn C dX5_row_14 1 rfl rfl ?_
    refine g_topci (nI i) (ei) ?_
    refine g_imul C dX5_row_15 ?_
    refine g_iloadn C dX5_row_16 2 rfl rfl ?_
    refine g_topci (nI w) (ew) ?_
    refine g_iadd C dX5_row_17 ?_
    refine g_iald C 9 (((3 * i) + w)) (f := (m_rows v)) rfl (ix_add (ix_mul rfl rfl) rfl) (by omega) (by decide) dX5_row_18 ?_
    refine g_goto C 24 dX5_row_19 rfl ?_
    exact g_iret C () hr dX5_row_24 (Nat.le_of_ble_eq_true rfl) (Nat.le_of_ble_eq_true rfl) rfl (by unfold R_row; rw [if_pos c_6, ei2, ew2])

