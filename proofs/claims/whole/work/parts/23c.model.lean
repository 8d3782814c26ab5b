set_option maxRecDepth 100000 in
set_option maxHeartbeats 4000000 in
theorem k_X5_alterRow (l : Launch) (D : va_G) (q : Nat → ClassId) (tt : Nat → Nat) (a : Nat → Nat) (v : MC) (rn : Nat) (x : Int32) (y : Int32) (z : Int32) (hrn : (m_rowN v) = nI rn) (hr10 : rn ≤ 10) : MI l D q tt yX5_alterRow wsX5_alterRow ({ frames := 2, cells := 0, slots := 0, locals := 47 } : Room) [.ref (a 0), .int x, .int y, .int z] (mw q a v) (fun (r : Int32) (u : Nat → Int32) => r = R_row (m_rows v) rn x y ∧ u = Q_alter (m_rows v) rn x y z) (fun u => (mw q a ((m_s v), (m_held v), (m_aside v), (m_before v), (m_untried v), (m_isHeld v), (m_tape v), (m_taped v), (m_token v), (m_from v), (m_to v), (m_value v), (m_isWrong v), (m_heard v), (m_isMoved v), u, (m_rowN v), (m_sortOf v), (m_sizeOf v), (m_numbers v), (m_holdsWhat v), (m_holdsWhich v), (m_holdsMany v), (m_bodies v), (m_ran v), (m_actKind v), (m_actN v), (m_actA v), (m_isParted v)))) 0 0 := by
  refine MI.of RX5 [(0, .ref (a 0)), (1, .int x), (2, .int y), (3, .int z)] (by decide) rfl rfl (Nat.le_of_ble_eq_true rfl) rfl ?_
  intro p e s m args below meth c A C hr hnm
  have w_0 : ∀ w ∈ u_ws RX5 TX5 29, w ∈ wsX5_alterRow := by decide +kernel
  have w_1 : Cond.fieldLink RX5 35 (TX5 15).1 (TX5 15).2.1 (TX5 15).2.2.1 ∈ wsX5_alterRow := by decide +kernel
  refine g_aloadn C dX5_alterRow_0 0 rfl rfl ?_
  refine g_iloadn C dX5_alterRow_1 1 rfl rfl ?_
  refine g_iloadn C dX5_alterRow_2 2 rfl rfl ?_
  refine g_callAi C (rd_V C (k_X5_isRow l D q tt a v rn x y hrn (by first | assumption | omega)) gX5_alterRow_X5_isRow rfl rfl rfl 2 ok_X5_isRow rfl 0 rfl rfl (rest := []) rfl rfl (Nat.le_of_ble_eq_true rfl) dX5_alterRow_3 ⟨(Nat.le_of_ble_eq_true rfl), (Nat.le_of_ble_eq_true rfl)⟩ ⟨(Nat.le_of_ble_eq_true rfl), (Nat.le_of_ble_eq_true rfl)⟩) (fun r_3 _ h_3 => ?_)
  obtain rfl := h_3
  refine g_ifneE C 12 dX5_alterRow_6 rfl rfl (fun c_6 => ?_) (fun c_6 => ?_)
  · obtain ⟨i, hi, ei, ei2⟩ := ix_lt (by omega) c_6.1
    obtain ⟨w, hw_, ew, ew2⟩ := ix_le (n := 2) (by omega) c_6.2
    refine g_aloadn C dX5_alterRow_12 0 rfl rfl ?_
    refine g_get C fx5 w_0 0 15 (v := .ref (a 9)) rfl (by decide) w_1 rfl dX5_alterRow_13 ?_
    refine g_iconst C 3 dX5_alterRow_16 (by decide) ?_
    refine g_iloadn C dX5_alterRow_17 1 rfl rfl ?_
    refine g_topci (nI i) (ei) ?_
    refine g_imul C dX5_alterRow_18 ?_
    refine g_iloadn C dX5_alterRow_19 2 rfl rfl ?_
    refine g_topci (nI w) (ew) ?_
    refine g_iadd C dX5_alterRow_20 ?_
    refine g_iald C 9 (((3 * i) + w)) (f := (m_rows v)) rfl (ix_add (ix_mul rfl rfl) rfl) (by omega) (by decide) dX5_alterRow_21 ?_
    refine g_istore C [(4, .int ((m_rows v) ((3 * i) + w))), (0, .ref (a 0)), (1, .int x), (2, .int y), (3, .int z)] dX5_alterRow_22 (by decide) rfl ?_
    refine g_aloadn C dX5_alterRow_24 1 rfl rfl ?_
    refine g_get C fx5 w_0 0 15 (v := .ref (a 9)) rfl (by decide) w_1 rfl dX5_alterRow_25 ?_
    refine g_iconst C 3 dX5_alterRow_28 (by decide) ?_
    refine g_iloadn C dX5_alterRow_29 2 rfl rfl ?_
    refine g_topci (nI i) (ei) ?_
    refine g_imul C dX5_alterRow_30 ?_
    refine g_iloadn C dX5_alterRow_31 3 rfl rfl ?_
    refine g_topci (nI w) (ew) ?_
    refine g_iadd C dX5_alterRow_32 ?_
    refine g_iloadn C dX5_alterRow_33 4 rfl rfl ?_
    refine g_iast C 9 (((3 * i) + w)) (f := (m_rows v)) rfl (ix_add (ix_mul rfl rfl) rfl) (by omega) (by decide) dX5_alterRow_34 (mw q a ((m_s v), (m_held v), (m_aside v), (m_before v), (m_untried v), (m_isHeld v), (m_tape v), (m_taped v), (m_token v), (m_from v), (m_to v), (m_value v), (m_isWrong v), (m_heard v), (m_isMoved v), (upd (m_rows v) ((3 * i) + w) z), (m_rowN v), (m_sortOf v), (m_sizeOf v), (m_numbers v), (m_holdsWhat v), (m_holdsWhich v), (m_holdsMany v), (m_bodies v), (m_ran v), (m_actKind v), (m_actN v), (m_actA v), (m_isParted v))) rfl ?_
    refine g_iload C dX5_alterRow_35 0 rfl ?_
    exact g_iret C (upd (m_rows v) ((3 * i) + w) z) hr dX5_alterRow_37 (Nat.le_of_ble_eq_true rfl) (Nat.le_of_ble_eq_true rfl) rfl (by unfold R_row Q_alter; rw [if_pos c_6, if_pos c_6, ei2, ew2]; exact ⟨rfl, rfl⟩)
  · refine g_bipush C (-9) dX5_alterRow_9 (by decide) ?_
    exact g_iret C (m_rows v) hr dX5_alterRow_11 (Nat.le_of_ble_eq_true rfl) (Nat.le_of_ble_eq_true rfl) rfl (by unfold R_row Q_alter; rw [if_neg c_6, if_neg c_6]; exact ⟨rfl, rfl⟩)

