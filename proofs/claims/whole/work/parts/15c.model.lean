set_option maxRecDepth 100000 in
set_option maxHeartbeats 4000000 in
theorem k_X5_earFor (l : Launch) (D : va_G) (q : Nat → ClassId) (tt : Nat → Nat) (a : Nat → Nat) (v : MC) (N : Nat) (x : Int32) (y : Int32) (hG : Gd (m_s v) N) : MI l D q tt yX5_earFor wsX5_earFor ({ frames := 7, cells := 0, slots := 0, locals := 164 } : Room) [.ref (a 0), .int x, .int y] (mw q a v) (fun (r : Int32) (u : (Nat → Int32) × (Nat → Int32) × (Nat → Int32)) => r = R_by (m_s v) N 2 10 x y) (fun u => (mw q a ((m_s v), (m_held v), u.1, (m_before v), (m_untried v), (m_isHeld v), (m_tape v), (m_taped v), (m_token v), (m_from v), (m_to v), (m_value v), (m_isWrong v), u.2.1, u.2.2, (m_rows v), (m_rowN v), (m_sortOf v), (m_sizeOf v), (m_numbers v), (m_holdsWhat v), (m_holdsWhich v), (m_holdsMany v), (m_bodies v), (m_ran v), (m_actKind v), (m_actN v), (m_actA v), (m_isParted v)))) 0 0 := by
  refine MI.of RX5 [(0, .ref (a 0)), (1, .int x), (2, .int y)] (by decide) rfl rfl (Nat.le_of_ble_eq_true rfl) rfl ?_
  intro p e s m args below meth c A C hr hnm
  have h8 := hG.le
  refine g_aloadn C dX5_earFor_0 0 rfl rfl ?_
  refine g_iloadn C dX5_earFor_1 1 rfl rfl ?_
  refine g_callAi C (rd_V C (k_X5_isOne l D q tt a v x ) gX5_earFor_X5_isOne rfl rfl rfl 1 ok_X5_isOne rfl 0 rfl rfl (rest := []) rfl rfl (Nat.le_of_ble_eq_true rfl) dX5_earFor_2 ⟨(Nat.le_of_ble_eq_true rfl), (Nat.le_of_ble_eq_true rfl)⟩ ⟨(Nat.le_of_ble_eq_true rfl), (Nat.le_of_ble_eq_true rfl)⟩) (fun r_2 _ h_2 => ?_)
  obtain rfl := h_2
  refine g_ifeqE C 27 dX5_earFor_5 rfl rfl (fun c_5 => ?_) (fun c_5 => ?_)
  · refine g_iconst C (-1) dX5_earFor_27 (by decide) ?_
    exact g_iret C ((m_aside v), (m_heard v), (m_isMoved v)) hr dX5_earFor_28 (Nat.le_of_ble_eq_true rfl) (Nat.le_of_ble_eq_true rfl) rfl (by unfold R_by; (repeat' split) <;> first | (rw [ec, ed]; done) | (rw [ec, ed]; rfl) | with_reducible rfl | (exfalso; simp only [lg_lt0, lg_gt0, w_le, w_lt, Int32.lt_iff_toInt_lt, Int32.le_iff_toInt_le, ← Int32.toInt_inj, tI_0, tI_1, tI_2, tI_3, tI_4, tI_5, tI_6, tI_7, tI_8, tI_9, tI_10, tI_13, tI_19, tI_20, tI_30, tI_32, tI_40, tI_48, tI_57, tI_59, tI_60, tI_97, tI_99, tI_100, tI_122, tI_200, tI_m1, tI_m2, tI_m3, tI_39, not_and, not_or] at * <;> omega))
  · refine g_iloadn C dX5_earFor_8 2 rfl rfl ?_
    refine g_call0i C (rd_S C (k_X5_isShort l D q tt y ) gX5_earFor_X5_isShort rfl rfl rfl 1 ok_X5_isShort (rest := []) rfl rfl (Nat.le_of_ble_eq_true rfl) dX5_earFor_9 ⟨(Nat.le_of_ble_eq_true rfl), (Nat.le_of_ble_eq_true rfl)⟩ ⟨(Nat.le_of_ble_eq_true rfl), (Nat.le_of_ble_eq_true rfl)⟩) (fun _ => rfl) (fun r_9 _ h_9 => ?_)
    obtain rfl := h_9
    refine g_ifeqE C 27 dX5_earFor_12 rfl rfl (fun c_12 => ?_) (fun c_12 => ?_)
    · refine g_iconst C (-1) dX5_earFor_27 (by decide) ?_
      exact g_iret C ((m_aside v), (m_heard v), (m_isMoved v)) hr dX5_earFor_28 (Nat.le_of_ble_eq_true rfl) (Nat.le_of_ble_eq_true rfl) rfl (by unfold R_by; (repeat' split) <;> first | (rw [ec, ed]; done) | (rw [ec, ed]; rfl) | with_reducible rfl | (exfalso; simp only [lg_lt0, lg_gt0, w_le, w_lt, Int32.lt_iff_toInt_lt, Int32.le_iff_toInt_le, ← Int32.toInt_inj, tI_0, tI_1, tI_2, tI_3, tI_4, tI_5, tI_6, tI_7, tI_8, tI_9, tI_10, tI_13, tI_19, tI_20, tI_30, tI_32, tI_40, tI_48, tI_57, tI_59, tI_60, tI_97, tI_99, tI_100, tI_122, tI_200, tI_m1, tI_m2, tI_m3, tI_39, not_and, not_or] at * <;> omega))
    · obtain ⟨j, hj, ej, ec⟩ := ix_one hG c_5
      obtain ⟨i, hi, ei, ed⟩ := ix_le (n := 20) (by omega) ⟨Int32.le_trans (by decide) c_12.1, c_12.2⟩
      refine g_aloadn C dX5_earFor_15 0 rfl rfl ?_
      refine g_iloadn C dX5_earFor_16 1 rfl rfl ?_
      refine g_topci (nI j) (ej) ?_
      refine g_iconst C 2 dX5_earFor_17 (by decide) ?_
      refine g_bipush C 9 dX5_earFor_18 (by decide) ?_
      refine g_iloadn C dX5_earFor_20 2 rfl rfl ?_
      refine g_topci (nI i) (ei) ?_
      refine g_callAi C (rd_V C (k_X5_proudestBy l D q tt a v N j 2 9 i (by first | assumption | omega) (by first | assumption | omega) (by first | assumption | omega) (by first | assumption | omega) (by first | assumption | omega) (fun i hi => hG.w2)) gX5_earFor_X5_proudestBy rfl rfl rfl 4 ok_X5_proudestBy rfl 0 rfl rfl (rest := []) rfl rfl (Nat.le_of_ble_eq_true rfl) dX5_earFor_21 ⟨(Nat.le_of_ble_eq_true rfl), (Nat.le_of_ble_eq_true rfl)⟩ ⟨(Nat.le_of_ble_eq_true rfl), (Nat.le_of_ble_eq_true rfl)⟩) (fun r_21 u_21 h_21 => ?_)
      obtain rfl := h_21
      refine g_goto C 28 dX5_earFor_24 rfl ?_
      exact g_iret C (u_21.1, u_21.2.1, u_21.2.2) hr dX5_earFor_28 (Nat.le_of_ble_eq_true rfl) (Nat.le_of_ble_eq_true rfl) rfl (by unfold R_by; (repeat' split) <;> first | (rw [ec, ed]; done) | (rw [ec, ed]; rfl) | with_reducible rfl | (exfalso; simp only [lg_lt0, lg_gt0, w_le, w_lt, Int32.lt_iff_toInt_lt, Int32.le_iff_toInt_le, ← Int32.toInt_inj, tI_0, tI_1, tI_2, tI_3, tI_4, tI_5, tI_6, tI_7, tI_8, tI_9, tI_10, tI_13, tI_19, tI_20, tI_30, tI_32, tI_40, tI_48, tI_57, tI_59, tI_60, tI_97, tI_99, tI_100, tI_122, tI_200, tI_m1, tI_m2, tI_m3, tI_39, not_and, not_or] at * <;> omega))

