set_option maxRecDepth 100000 in
set_option maxHeartbeats 4000000 in
theorem k_X5_set (l : Launch) (D : va_G) (q : Nat → ClassId) (tt : Nat → Nat) (a : Nat → Nat) (v : MC) (N : Nat) (x : Int32) (y : Int32) (hG : Gd (m_s v) N) : MI l D q tt yX5_set wsX5_set ({ frames := 1, cells := 0, slots := 0, locals := 25 } : Room) [.ref (a 0), .int x, .int y] (mw q a v) (fun (r : Int32) (u : Nat → Int32) => r = R_set (m_s v) x y ∧ u = S_set (m_s v) x y) (fun u => (mw q a (u, (m_held v), (m_aside v), (m_before v), (m_untried v), (m_isHeld v), (m_tape v), (m_taped v), (m_token v), (m_from v), (m_to v), (m_value v), (m_isWrong v), (m_heard v), (m_isMoved v), (m_rows v), (m_rowN v), (m_sortOf v), (m_sizeOf v), (m_numbers v), (m_holdsWhat v), (m_holdsWhich v), (m_holdsMany v), (m_bodies v), (m_ran v), (m_actKind v), (m_actN v), (m_actA v), (m_isParted v)))) 0 0 := by
  refine MI.of RX5 [(0, .ref (a 0)), (1, .int x), (2, .int y)] (by decide) rfl rfl (Nat.le_of_ble_eq_true rfl) rfl ?_
  intro p e s m args below meth c A C hr hnm
  have w_0 : Cond.constantLong RX5 152 (3) ∈ wsX5_set := by decide +kernel
  have w_1 : Cond.constantLong RX5 156 (9) ∈ wsX5_set := by decide +kernel
  have w_2 : Cond.constantLong RX5 154 (99) ∈ wsX5_set := by decide +kernel
  have h8 := hG.le
  refine g_iloadn C dX5_set_0 1 rfl rfl ?_
  refine g_i2l C dX5_set_1 ?_
  refine g_lconst C 0 dX5_set_2 (by decide) ?_
  refine g_ldc2 C (3) dX5_set_3 w_0 ?_
  refine g_call0i C (rd_S C (k_isIn32 l D q tt (x) 0 (3) 0 (3) (by first | rfl | decide) (by first | rfl | decide)) gX5_set_X5_isIn rfl rfl rfl 3 ok_X5_isIn (rest := []) rfl rfl (Nat.le_of_ble_eq_true rfl) dX5_set_6 ⟨(Nat.le_of_ble_eq_true rfl), (Nat.le_of_ble_eq_true rfl)⟩ ⟨(Nat.le_of_ble_eq_true rfl), (Nat.le_of_ble_eq_true rfl)⟩) (fun _ => rfl) (fun r_6 _ h_6 => ?_)
  obtain rfl := h_6
  refine g_ifeqE C 55 dX5_set_9 rfl rfl (fun c_9 => ?_) (fun c_9 => ?_)
  · refine g_iconst C (-1) dX5_set_55 (by decide) ?_
    exact g_iret C (m_s v) hr dX5_set_56 (Nat.le_of_ble_eq_true rfl) (Nat.le_of_ble_eq_true rfl) rfl (by unfold R_set S_set; (repeat' split) <;> first | rfl | exact ⟨rfl, rfl⟩ | (rw [ec]; done) | (rw [ec]; exact ⟨rfl, rfl⟩) | (rw [ec]; rfl) | (exfalso; simp only [lg_lt0, lg_gt0, w_le, w_lt, Int32.lt_iff_toInt_lt, Int32.le_iff_toInt_le, ← Int32.toInt_inj, tI_0, tI_1, tI_2, tI_3, tI_4, tI_5, tI_6, tI_7, tI_8, tI_9, tI_10, tI_13, tI_19, tI_20, tI_30, tI_32, tI_40, tI_48, tI_57, tI_59, tI_60, tI_97, tI_99, tI_100, tI_122, tI_200, tI_m1, tI_m2, tI_m3, tI_39, not_and, not_or] at * <;> omega))
  · refine g_iloadn C dX5_set_12 2 rfl rfl ?_
    refine g_i2l C dX5_set_13 ?_
    refine g_iloadn C dX5_set_14 1 rfl rfl ?_
    refine g_iconst C 1 dX5_set_15 (by decide) ?_
    refine g_icmp_ne C 23 dX5_set_16 rfl (fun c_16 => ?_) (fun c_16 => ?_)
    · refine g_lconst C 0 dX5_set_23 (by decide) ?_
      refine g_iloadn C dX5_set_24 1 rfl rfl ?_
      refine g_iconst C 3 dX5_set_25 (by decide) ?_
      refine g_icmp_ne C 35 dX5_set_26 rfl (fun c_26 => ?_) (fun c_26 => ?_)
      · refine g_ldc2 C (9) dX5_set_35 w_1 ?_
        refine g_call0i C (rd_S C (k_isIn32 l D q tt (y) 0 (9) 0 (9) (by first | rfl | decide) (by first | rfl | decide)) gX5_set_X5_isIn rfl rfl rfl 3 ok_X5_isIn (rest := []) rfl rfl (Nat.le_of_ble_eq_true rfl) dX5_set_38 ⟨(Nat.le_of_ble_eq_true rfl), (Nat.le_of_ble_eq_true rfl)⟩ ⟨(Nat.le_of_ble_eq_true rfl), (Nat.le_of_ble_eq_true rfl)⟩) (fun _ => rfl) (fun r_38 _ h_38 => ?_)
        obtain rfl := h_38
        refine g_ifeqE C 55 dX5_set_41 rfl rfl (fun c_41 => ?_) (fun c_41 => ?_)
        · refine g_iconst C (-1) dX5_set_55 (by decide) ?_
          exact g_iret C (m_s v) hr dX5_set_56 (Nat.le_of_ble_eq_true rfl) (Nat.le_of_ble_eq_true rfl) rfl (by unfold R_set S_set; (repeat' split) <;> first | rfl | exact ⟨rfl, rfl⟩ | (rw [ec]; done) | (rw [ec]; exact ⟨rfl, rfl⟩) | (rw [ec]; rfl) | (exfalso; simp only [lg_lt0, lg_gt0, w_le, w_lt, Int32.lt_iff_toInt_lt, Int32.le_iff_toInt_le, ← Int32.toInt_inj, tI_0, tI_1, tI_2, tI_3, tI_4, tI_5, tI_6, tI_7, tI_8, tI_9, tI_10, tI_13, tI_19, tI_20, tI_30, tI_32, tI_40, tI_48, tI_57, tI_59, tI_60, tI_97, tI_99, tI_100, tI_122, tI_200, tI_m1, tI_m2, tI_m3, tI_39, not_and, not_or] at * <;> omega))
        · obtain ⟨j, hj, ej, ec⟩ := ix_le (n := 3) (by omega) c_9
          refine g_aloadn C dX5_set_44 0 rfl rfl ?_
          refine g_iconst C 3 dX5_set_45 (by decide) ?_
          refine g_iloadn C dX5_set_46 1 rfl rfl ?_
          refine g_iadd C dX5_set_47 ?_
          refine g_topci (nI (3 + j)) (by rw [ej]; exact nI_add 3 j) ?_
          refine g_iloadn C dX5_set_48 2 rfl rfl ?_
          refine g_callAi C (rd_V C (k_X5_becomes l D q tt a v (3 + j) y (by first | assumption | omega)) gX5_set_X5_becomes rfl rfl rfl 2 ok_X5_becomes rfl 0 rfl rfl (rest := []) rfl rfl (Nat.le_of_ble_eq_true rfl) dX5_set_49 ⟨(Nat.le_of_ble_eq_true rfl), (Nat.le_of_ble_eq_true rfl)⟩ ⟨(Nat.le_of_ble_eq_true rfl), (Nat.le_of_ble_eq_true rfl)⟩) (fun r_49 _ h_49 => ?_)
          obtain rfl := h_49
          refine g_goto C 56 dX5_set_52 rfl ?_
          exact g_iret C (upd (m_s v) (3 + j) y) hr dX5_set_56 (Nat.le_of_ble_eq_true rfl) (Nat.le_of_ble_eq_true rfl) rfl (by unfold R_set S_set; (repeat' split) <;> first | rfl | exact ⟨rfl, rfl⟩ | (rw [ec]; done) | (rw [ec]; exact ⟨rfl, rfl⟩) | (rw [ec]; rfl) | (exfalso; simp only [lg_lt0, lg_gt0, w_le, w_lt, Int32.lt_iff_toInt_lt, Int32.le_iff_toInt_le, ← Int32.toInt_inj, tI_0, tI_1, tI_2, tI_3, tI_4, tI_5, tI_6, tI_7, tI_8, tI_9, tI_10, tI_13, tI_19, tI_20, tI_30, tI_32, tI_40, tI_48, tI_57, tI_59, tI_60, tI_97, tI_99, tI_100, tI_122, tI_200, tI_m1, tI_m2, tI_m3, tI_39, not_and, not_or] at * <;> omega))
      · refine g_ldc2 C (99) dX5_set_29 w_2 ?_
        refine g_goto C 38 dX5_set_32 rfl ?_
        refine g_call0i C (rd_S C (k_isIn32 l D q tt (y) 0 (99) 0 (99) (by first | rfl | decide) (by first | rfl | decide)) gX5_set_X5_isIn rfl rfl rfl 3 ok_X5_isIn (rest := []) rfl rfl (Nat.le_of_ble_eq_true rfl) dX5_set_38 ⟨(Nat.le_of_ble_eq_true rfl), (Nat.le_of_ble_eq_true rfl)⟩ ⟨(Nat.le_of_ble_eq_true rfl), (Nat.le_of_ble_eq_true rfl)⟩) (fun _ => rfl) (fun r_38 _ h_38 => ?_)
        obtain rfl := h_38
        refine g_ifeqE C 55 dX5_set_41 rfl rfl (fun c_41 => ?_) (fun c_41 => ?_)
        · refine g_iconst C (-1) dX5_set_55 (by decide) ?_
          exact g_iret C (m_s v) hr dX5_set_56 (Nat.le_of_ble_eq_true rfl) (Nat.le_of_ble_eq_true rfl) rfl (by unfold R_set S_set; (repeat' split) <;> first | rfl | exact ⟨rfl, rfl⟩ | (rw [ec]; done) | (rw [ec]; exact ⟨rfl, rfl⟩) | (rw [ec]; rfl) | (exfalso; simp only [lg_lt0, lg_gt0, w_le, w_lt, Int32.lt_iff_toInt_lt, Int32.le_iff_toInt_le, ← Int32.toInt_inj, tI_0, tI_1, tI_2, tI_3, tI_4, tI_5, tI_6, tI_7, tI_8, tI_9, tI_10, tI_13, tI_19, tI_20, tI_30, tI_32, tI_40, tI_48, tI_57, tI_59, tI_60, tI_97, tI_99, tI_100, tI_122, tI_200, tI_m1, tI_m2, tI_m3, tI_39, not_and, not_or] at * <;> omega))
        · obtain ⟨j, hj, ej, ec⟩ := ix_le (n := 3) (by omega) c_9
          refine g_aloadn C dX5_set_44 0 rfl rfl ?_
          refine g_iconst C 3 dX5_set_45 (by decide) ?_
          refine g_iloadn C dX5_set_46 1 rfl rfl ?_
          refine g_iadd C dX5_set_47 ?_
          refine g_topci (nI (3 + j)) (by rw [ej]; exact nI_add 3 j) ?_
          refine g_iloadn C dX5_set_48 2 rfl rfl ?_
          refine g_callAi C (rd_V C (k_X5_becomes l D q tt a v (3 + j) y (by first | assumption | omega)) gX5_set_X5_becomes rfl rfl rfl 2 ok_X5_becomes rfl 0 rfl rfl (rest := []) rfl rfl (Nat.le_of_ble_eq_true rfl) dX5_set_49 ⟨(Nat.le_of_ble_eq_true rfl), (Nat.le_of_ble_eq_true rfl)⟩ ⟨(Nat.le_of_ble_eq_true rfl), (Nat.le_of_ble_eq_true rfl)⟩) (fun r_49 _ h_49 => ?_)
          obtain rfl := h_49
          refine g_goto C 56 dX5_set_52 rfl ?_
          exact g_iret C (upd (m_s v) (3 + j) y) hr dX5_set_56 (Nat.le_of_ble_eq_true rfl) (Nat.le_of_ble_eq_true rfl) rfl (by unfold R_set S_set; (repeat' split) <;> first | rfl | exact ⟨rfl, rfl⟩ | (rw [ec]; done) | (rw [ec]; exact ⟨rfl, rfl⟩) | (rw [ec]; rfl) | (exfalso; simp only [lg_lt0, lg_gt0, w_le, w_lt, Int32.lt_iff_toInt_lt, Int32.le_iff_toInt_le, ← Int32.toInt_inj, tI_0, tI_1, tI_2, tI_3, tI_4, tI_5, tI_6, tI_7, tI_8, tI_9, tI_10, tI_13, tI_19, tI_20, tI_30, tI_32, tI_40, tI_48, tI_57, tI_59, tI_60, tI_97, tI_99, tI_100, tI_122, tI_200, tI_m1, tI_m2, tI_m3, tI_39, not_and, not_or] at * <;> omega))
    · refine g_lconst C 1 dX5_set_19 (by decide) ?_
      refine g_goto C 24 dX5_set_20 rfl ?_
      refine g_iloadn C dX5_set_24 1 rfl rfl ?_
      refine g_iconst C 3 dX5_set_25 (by decide) ?_
      refine g_icmp_ne C 35 dX5_set_26 rfl (fun c_26 => ?_) (fun c_26 => ?_)
      · refine g_ldc2 C (9) dX5_set_35 w_1 ?_
        refine g_call0i C (rd_S C (k_isIn32 l D q tt (y) 1 (9) 1 (9) (by first | rfl | decide) (by first | rfl | decide)) gX5_set_X5_isIn rfl rfl rfl 3 ok_X5_isIn (rest := []) rfl rfl (Nat.le_of_ble_eq_true rfl) dX5_set_38 ⟨(Nat.le_of_ble_eq_true rfl), (Nat.le_of_ble_eq_true rfl)⟩ ⟨(Nat.le_of_ble_eq_true rfl), (Nat.le_of_ble_eq_true rfl)⟩) (fun _ => rfl) (fun r_38 _ h_38 => ?_)
        obtain rfl := h_38
        refine g_ifeqE C 55 dX5_set_41 rfl rfl (fun c_41 => ?_) (fun c_41 => ?_)
        · refine g_iconst C (-1) dX5_set_55 (by decide) ?_
          exact g_iret C (m_s v) hr dX5_set_56 (Nat.le_of_ble_eq_true rfl) (Nat.le_of_ble_eq_true rfl) rfl (by unfold R_set S_set; (repeat' split) <;> first | rfl | exact ⟨rfl, rfl⟩ | (rw [ec]; done) | (rw [ec]; exact ⟨rfl, rfl⟩) | (rw [ec]; rfl) | (exfalso; simp only [lg_lt0, lg_gt0, w_le, w_lt, Int32.lt_iff_toInt_lt, Int32.le_iff_toInt_le, ← Int32.toInt_inj, tI_0, tI_1, tI_2, tI_3, tI_4, tI_5, tI_6, tI_7, tI_8, tI_9, tI_10, tI_13, tI_19, tI_20, tI_30, tI_32, tI_40, tI_48, tI_57, tI_59, tI_60, tI_97, tI_99, tI_100, tI_122, tI_200, tI_m1, tI_m2, tI_m3, tI_39, not_and, not_or] at * <;> omega))
        · obtain ⟨j, hj, ej, ec⟩ := ix_le (n := 3) (by omega) c_9
          refine g_aloadn C dX5_set_44 0 rfl rfl ?_
          refine g_iconst C 3 dX5_set_45 (by decide) ?_
          refine g_iloadn C dX5_set_46 1 rfl rfl ?_
          refine g_iadd C dX5_set_47 ?_
          refine g_topci (nI (3 + j)) (by rw [ej]; exact nI_add 3 j) ?_
          refine g_iloadn C dX5_set_48 2 rfl rfl ?_
          refine g_callAi C (rd_V C (k_X5_becomes l D q tt a v (3 + j) y (by first | assumption | omega)) gX5_set_X5_becomes rfl rfl rfl 2 ok_X5_becomes rfl 0 rfl rfl (rest := []) rfl rfl (Nat.le_of_ble_eq_true rfl) dX5_set_49 ⟨(Nat.le_of_ble_eq_true rfl), (Nat.le_of_ble_eq_true rfl)⟩ ⟨(Nat.le_of_ble_eq_true rfl), (Nat.le_of_ble_eq_true rfl)⟩) (fun r_49 _ h_49 => ?_)
          obtain rfl := h_49
          refine g_goto C 56 dX5_set_52 rfl ?_
          exact g_iret C (upd (m_s v) (3 + j) y) hr dX5_set_56 (Nat.le_of_ble_eq_true rfl) (Nat.le_of_ble_eq_true rfl) rfl (by unfold R_set S_set; (repeat' split) <;> first | rfl | exact ⟨rfl, rfl⟩ | (rw [ec]; done) | (rw [ec]; exact ⟨rfl, rfl⟩) | (rw [ec]; rfl) | (exfalso; simp only [lg_lt0, lg_gt0, w_le, w_lt, Int32.lt_iff_toInt_lt, Int32.le_iff_toInt_le, ← Int32.toInt_inj, tI_0, tI_1, tI_2, tI_3, tI_4, tI_5, tI_6, tI_7, tI_8, tI_9, tI_10, tI_13, tI_19, tI_20, tI_30, tI_32, tI_40, tI_48, tI_57, tI_59, tI_60, tI_97, tI_99, tI_100, tI_122, tI_200, tI_m1, tI_m2, tI_m3, tI_39, not_and, not_or] at * <;> omega))
      · refine g_ldc2 C (99) dX5_set_29 w_2 ?_
        refine g_goto C 38 dX5_set_32 rfl ?_
        refine g_call0i C (rd_S C (k_isIn32 l D q tt (y) 1 (99) 1 (99) (by first | rfl | decide) (by first | rfl | decide)) gX5_set_X5_isIn rfl rfl rfl 3 ok_X5_isIn (rest := []) rfl rfl (Nat.le_of_ble_eq_true rfl) dX5_set_38 ⟨(Nat.le_of_ble_eq_true rfl), (Nat.le_of_ble_eq_true rfl)⟩ ⟨(Nat.le_of_ble_eq_true rfl), (Nat.le_of_ble_eq_true rfl)⟩) (fun _ => rfl) (fun r_38 _ h_38 => ?_)
        obtain rfl := h_38
        refine g_ifeqE C 55 dX5_set_41 rfl rfl (fun c_41 => ?_) (fun c_41 => ?_)
        · refine g_iconst C (-1) dX5_set_55 (by decide) ?_
          exact g_iret C (m_s v) hr dX5_set_56 (Nat.le_of_ble_eq_true rfl) (Nat.le_of_ble_eq_true rfl) rfl (by unfold R_set S_set; (repeat' split) <;> first | rfl | exact ⟨rfl, rfl⟩ | (rw [ec]; done) | (rw [ec]; exact ⟨rfl, rfl⟩) | (rw [ec]; rfl) | (exfalso; simp only [lg_lt0, lg_gt0, w_le, w_lt, Int32.lt_iff_toInt_lt, Int32.le_iff_toInt_le, ← Int32.toInt_inj, tI_0, tI_1, tI_2, tI_3, tI_4, tI_5, tI_6, tI_7, tI_8, tI_9, tI_10, tI_13, tI_19, tI_20, tI_30, tI_32, tI_40, tI_48, tI_57, tI_59, tI_60, tI_97, tI_99, tI_100, tI_122, tI_200, tI_m1, tI_m2, tI_m3, tI_39, not_and, not_or] at * <;> omega))
        · obtain ⟨j, hj, ej, ec⟩ := ix_le (n := 3) (by omega) c_9
          refine g_aloadn C dX5_set_44 0 rfl rfl ?_
          refine g_iconst C 3 dX5_set_45 (by decide) ?_
          refine g_iloadn C dX5_set_46 1 rfl rfl ?_
          refine g_iadd C dX5_set_47 ?_
          refine g_topci (nI (3 + j)) (by rw [ej]; exact nI_add 3 j) ?_
          refine g_iloadn C dX5_set_48 2 rfl rfl ?_
          refine g_callAi C (rd_V C (k_X5_becomes l D q tt a v (3 + j) y (by first | assumption | omega)) gX5_set_X5_becomes rfl rfl rfl 2 ok_X5_becomes rfl 0 rfl rfl (rest := []) rfl rfl (Nat.le_of_ble_eq_true rfl) dX5_set_49 ⟨(Nat.le_of_ble_eq_true rfl), (Nat.le_of_ble_eq_true rfl)⟩ ⟨(Nat.le_of_ble_eq_true rfl), (Nat.le_of_ble_eq_true rfl)⟩) (fun r_49 _ h_49 => ?_)
          obtain rfl := h_49
          refine g_goto C 56 dX5_set_52 rfl ?_
          exact g_iret C (upd (m_s v) (3 + j) y) hr dX5_set_56 (Nat.le_of_ble_eq_true rfl) (Nat.le_of_ble_eq_true rfl) rfl (by unfold R_set S_set; (repeat' split) <;> first | rfl | exact ⟨rfl, rfl⟩ | (rw [ec]; done) | (rw [ec]; exact ⟨rfl, rfl⟩) | (rw [ec]; rfl) | (exfalso; simp only [lg_lt0, lg_gt0, w_le, w_lt, Int32.lt_iff_toInt_lt, Int32.le_iff_toInt_le, ← Int32.toInt_inj, tI_0, tI_1, tI_2, tI_3, tI_4, tI_5, tI_6, tI_7, tI_8, tI_9, tI_10, tI_13, tI_19, tI_20, tI_30, tI_32, tI_40, tI_48, tI_57, tI_59, tI_60, tI_97, tI_99, tI_100, tI_122, tI_200, tI_m1, tI_m2, tI_m3, tI_39, not_and, not_or] at * <;> omega))

set_option maxRecDepth 100000 in
set_option maxHeartbeats 4000000 in
theorem k_X5_lawOf (l : Launch) (D : va_G) (q : Nat → ClassId) (tt : Nat → Nat) (a : Nat → Nat) (v : MC) (N : Nat) (x : Int32) (hG : Gd (m_s v) N) : MI l D q tt yX5_lawOf wsX5_lawOf ({ frames := 1, cells := 0, slots := 0, locals := 25 } : Room) [.ref (a 0), .int x] (mw q a v) (fun (r : Int32) (u : Unit) => r = R_lawOf (m_s v) x) (fun (_ : Unit) => (mw q a v)) 0 0 := by
  refine MI.of RX5 [(0, .ref (a 0)), (1, .int x)] (by decide) rfl rfl (Nat.le_of_ble_eq_true rfl) rfl ?_
  intro p e s m args below meth c A C hr hnm
  have w_0 : Cond.constantLong RX5 152 (3) ∈ wsX5_lawOf := by decide +kernel
  have w_1 : ∀ w ∈ u_ws RX5 TX5 29, w ∈ wsX5_lawOf := by decide +kernel
  have w_2 : Cond.fieldLink RX5 7 (TX5 0).1 (TX5 0).2.1 (TX5 0).2.2.1 ∈ wsX5_lawOf := by decide +kernel
  have h8 := hG.le
  refine g_iloadn C dX5_lawOf_0 1 rfl rfl ?_
  refine g_i2l C dX5_lawOf_1 ?_
  refine g_lconst C 0 dX5_lawOf_2 (by decide) ?_
  refine g_ldc2 C (3) dX5_lawOf_3 w_0 ?_
  refine g_call0i C (rd_S C (k_isIn32 l D q tt (x) 0 (3) 0 (3) (by first | rfl | decide) (by first | rfl | decide)) gX5_lawOf_X5_isIn rfl rfl rfl 3 ok_X5_isIn (rest := []) rfl rfl (Nat.le_of_ble_eq_true rfl) dX5_lawOf_6 ⟨(Nat.le_of_ble_eq_true rfl), (Nat.le_of_ble_eq_true rfl)⟩ ⟨(Nat.le_of_ble_eq_true rfl), (Nat.le_of_ble_eq_true rfl)⟩) (fun _ => rfl) (fun r_6 _ h_6 => ?_)
  obtain rfl := h_6
  refine g_ifeqE C 23 dX5_lawOf_9 rfl rfl (fun c_9 => ?_) (fun c_9 => ?_)
  · refine g_iconst C (-1) dX5_lawOf_23 (by decide) ?_
    exact g_iret C () hr dX5_lawOf_24 (Nat.le_of_ble_eq_true rfl) (Nat.le_of_ble_eq_true rfl) rfl (by unfold R_lawOf; (repeat' split) <;> first | rfl | exact ⟨rfl, rfl⟩ | (rw [ec]; done) | (rw [ec]; exact ⟨rfl, rfl⟩) | (rw [ec]; rfl) | (exfalso; simp only [lg_lt0, lg_gt0, w_le, w_lt, Int32.lt_iff_toInt_lt, Int32.le_iff_toInt_le, ← Int32.toInt_inj, tI_0, tI_1, tI_2, tI_3, tI_4, tI_5, tI_6, tI_7, tI_8, tI_9, tI_10, tI_13, tI_19, tI_20, tI_30, tI_32, tI_40, tI_48, tI_57, tI_59, tI_60, tI_97, tI_99, tI_100, tI_122, tI_200, tI_m1, tI_m2, tI_m3, tI_39, not_and, not_or] at * <;> omega))
  · obtain ⟨j, hj, ej, ec⟩ := ix_le (n := 3) (by omega) c_9
    refine g_aloadn C dX5_lawOf_12 0 rfl rfl ?_
    refine g_get C fx5 w_1 0 0 (v := .ref (a 1)) rfl (by decide) w_2 rfl dX5_lawOf_13 ?_
    refine g_iconst C 3 dX5_lawOf_16 (by decide) ?_
    refine g_iloadn C dX5_lawOf_17 1 rfl rfl ?_
    refine g_iadd C dX5_lawOf_18 ?_
    refine g_topci (nI (3 + j)) (by rw [ej]; exact nI_add 3 j) ?_
    refine g_iald C 1 ((3 + j)) (f := (m_s v)) rfl rfl (by omega) (by decide) dX5_lawOf_19 ?_
    refine g_goto C 24 dX5_lawOf_20 rfl ?_
    exact g_iret C () hr dX5_lawOf_24 (Nat.le_of_ble_eq_true rfl) (Nat.le_of_ble_eq_true rfl) rfl (by unfold R_lawOf; (repeat' split) <;> first | rfl | exact ⟨rfl, rfl⟩ | (rw [ec]; done) | (rw [ec]; exact ⟨rfl, rfl⟩) | (rw [ec]; rfl) | (exfalso; simp only [lg_lt0, lg_gt0, w_le, w_lt, Int32.lt_iff_toInt_lt, Int32.le_iff_toInt_le, ← Int32.toInt_inj, tI_0, tI_1, tI_2, tI_3, tI_4, tI_5, tI_6, tI_7, tI_8, tI_9, tI_10, tI_13, tI_19, tI_20, tI_30, tI_32, tI_40, tI_48, tI_57, tI_59, tI_60, tI_97, tI_99, tI_100, tI_122, tI_200, tI_m1, tI_m2, tI_m3, tI_39, not_and, not_or] at * <;> omega))

set_option maxRecDepth 100000 in
set_option maxHeartbeats 4000000 in
theorem k_X5_comes (l : Launch) (D : va_G) (q : Nat → ClassId) (tt : Nat → Nat) (a : Nat → Nat) (v : MC) (N : Nat) (x1 : Int32) (x2 : Int32) (x3 : Int32) (x4 : Int32) (hN : (m_s v) 0 = nI N) (h8 : N < 8) : MV l D q tt yX5_comes wsX5_comes ({ frames := 0, cells := 0, slots := 0, locals := 0 } : Room) [.ref (a 0), .int x1, .int x2, .int x3, .int x4] (mw q a v) (fun (u : Unit) => True) (fun (_ : Unit) => (mw q a ((cmS (m_s v) N x1 x2 x3 x4), (m_held v), (m_aside v), (m_before v), (m_untried v), (m_isHeld v), (m_tape v), (m_taped v), (m_token v), (m_from v), (m_to v), (m_value v), (m_isWrong v), (m_heard v), (m_isMoved v), (m_rows v), (m_rowN v), (m_sortOf v), (m_sizeOf v), (m_numbers v), (m_holdsWhat v), (m_holdsWhich v), (m_holdsMany v), (m_bodies v), (m_ran v), (m_actKind v), (m_actN v), (m_actA v), (m_isParted v)))) 0 0 := by
  refine MV.of RX5 [(0, .ref (a 0)), (1, .int x1), (2, .int x2), (3, .int x3), (4, .int x4)] (by decide) rfl rfl (Nat.le_of_ble_eq_true rfl) rfl ?_
  intro p e s m args below meth c A C hr hnm
  have w_0 : ∀ w ∈ u_ws RX5 TX5 29, w ∈ wsX5_comes := by decide +kernel
  have w_1 : Cond.fieldLink RX5 7 (TX5 0).1 (TX5 0).2.1 (TX5 0).2.2.1 ∈ wsX5_comes := by decide +kernel
  refine g_bipush C 7 dX5_comes_0 (by decide) ?_
  refine g_iconst C 5 dX5_comes_2 (by decide) ?_
  refine g_aloadn C dX5_comes_3 0 rfl rfl ?_
  refine g_get C fx5 w_0 0 0 (v := .ref (a 1)) rfl (by decide) w_1 rfl dX5_comes_4 ?_
  refine g_iconst C 0 dX5_comes_7 (by decide) ?_
  refine g_iald C 1 (0) (f := (m_s v)) rfl rfl (by omega) (by decide) dX5_comes_8 ?_
  refine g_topci (nI N) (hN) ?_
  refine g_imul C dX5_comes_9 ?_
  refine g_iadd C dX5_comes_10 ?_
  refine g_topci (nI (7 + (5 * N))) ((ix_add rfl (ix_mul rfl rfl))) ?_
  refine g_istore C [(5, .int (nI (7 + (5 * N)))), (0, .ref (a 0)), (1, .int x1), (2, .int x2), (3, .int x3), (4, .int x4)] dX5_comes_11 (by decide) rfl ?_
  refine g_aloadn C dX5_comes_13 1 rfl rfl ?_
  refine g_get C fx5 w_0 0 0 (v := .ref (a 1)) rfl (by decide) w_1 rfl dX5_comes_14 ?_
  refine g_iload C dX5_comes_17 0 rfl ?_
  refine g_iloadn C dX5_comes_19 2 rfl rfl ?_
  refine g_iast C 1 ((7 + (5 * N))) (f := (m_s v)) rfl rfl (by omega) (by decide) dX5_comes_20 (mw q a ((upd (m_s v) (7 + (5 * N)) x1), (m_held v), (m_aside v), (m_before v), (m_untried v), (m_isHeld v), (m_tape v), (m_taped v), (m_token v), (m_from v), (m_to v), (m_value v), (m_isWrong v), (m_heard v), (m_isMoved v), (m_rows v), (m_rowN v), (m_sortOf v), (m_sizeOf v), (m_numbers v), (m_holdsWhat v), (m_holdsWhich v), (m_holdsMany v), (m_bodies v), (m_ran v), (m_actKind v), (m_actN v), (m_actA v), (m_isParted v))) rfl ?_
  refine g_aloadn C dX5_comes_21 1 rfl rfl ?_
  refine g_get C fx5 w_0 0 0 (v := .ref (a 1)) rfl (by decide) w_1 rfl dX5_comes_22 ?_
  refine g_iload C dX5_comes_25 0 rfl ?_
  refine g_iconst C 1 dX5_comes_27 (by decide) ?_
  refine g_iadd C dX5_comes_28 ?_
  refine g_iloadn C dX5_comes_29 3 rfl rfl ?_
  refine g_iast C 1 (((7 + (5 * N)) + 1)) (f := (upd (m_s v) (7 + (5 * N)) x1)) rfl (ix_add rfl rfl) (by omega) (by decide) dX5_comes_30 (mw q a ((upd (upd (m_s v) (7 + (5 * N)) x1) ((7 + (5 * N)) + 1) x2), (m_held v), (m_aside v), (m_before v), (m_untried v), (m_isHeld v), (m_tape v), (m_taped v), (m_token v), (m_from v), (m_to v), (m_value v), (m_isWrong v), (m_heard v), (m_isMoved v), (m_rows v), (m_rowN v), (m_sortOf v), (m_sizeOf v), (m_numbers v), (m_holdsWhat v), (m_holdsWhich v), (m_holdsMany v), (m_bodies v), (m_ran v), (m_actKind v), (m_actN v), (m_actA v), (m_isParted v))) rfl ?_
  refine g_aloadn C dX5_comes_31 1 rfl rfl ?_
  refine g_get C fx5 w_0 0 0 (v := .ref (a 1)) rfl (by decide) w_1 rfl dX5_comes_32 ?_
  refine g_iload C dX5_comes_35 0 rfl ?_
  refine g_iconst C 2 dX5_comes_37 (by decide) ?_
  refine g_iadd C dX5_comes_38 ?_
  refine g_iloadn C dX5_comes_39 4 rfl rfl ?_
  refine g_iast C 1 (((7 + (5 * N)) + 2)) (f := (upd (upd (m_s v) (7 + (5 * N)) x1) ((7 + (5 * N)) + 1) x2)) rfl (ix_add rfl rfl) (by omega) (by decide) dX5_comes_40 (mw q a ((upd (upd (upd (m_s v) (7 + (5 * N)) x1) ((7 + (5 * N)) + 1) x2) ((7 + (5 * N)) + 2) x3), (m_held v), (m_aside v), (m_before v), (m_untried v), (m_isHeld v), (m_tape v), (m_taped v), (m_token v), (m_from v), (m_to v), (m_value v), (m_isWrong v), (m_heard v), (m_isMoved v), (m_rows v), (m_rowN v), (m_sortOf v), (m_sizeOf v), (m_numbers v), (m_holdsWhat v), (m_holdsWhich v), (m_holdsMany v), (m_bodies v), (m_ran v), (m_actKind v), (m_actN v), (m_actA v), (m_isParted v))) rfl ?_
  refine g_aloadn C dX5_comes_41 1 rfl rfl ?_
  refine g_get C fx5 w_0 0 0 (v := .ref (a 1)) rfl (by decide) w_1 rfl dX5_comes_42 ?_
  refine g_iload C dX5_comes_45 0 rfl ?_
  refine g_iconst C 3 dX5_comes_47 (by decide) ?_
  refine g_iadd C dX5_comes_48 ?_
  refine g_iload C dX5_comes_49 5 rfl ?_
  refine g_iast C 1 (((7 + (5 * N)) + 3)) (f := (upd (upd (upd (m_s v) (7 + (5 * N)) x1) ((7 + (5 * N)) + 1) x2) ((7 + (5 * N)) + 2) x3)) rfl (ix_add rfl rfl) (by omega) (by decide) dX5_comes_51 (mw q a ((upd (upd (upd (upd (m_s v) (7 + (5 * N)) x1) ((7 + (5 * N)) + 1) x2) ((7 + (5 * N)) + 2) x3) ((7 + (5 * N)) + 3) x4), (m_held v), (m_aside v), (m_before v), (m_untried v), (m_isHeld v), (m_tape v), (m_taped v), (m_token v), (m_from v), (m_to v), (m_value v), (m_isWrong v), (m_heard v), (m_isMoved v), (m_rows v), (m_rowN v), (m_sortOf v), (m_sizeOf v), (m_numbers v), (m_holdsWhat v), (m_holdsWhich v), (m_holdsMany v), (m_bodies v), (m_ran v), (m_actKind v), (m_actN v), (m_actA v), (m_isParted v))) rfl ?_
  refine g_aloadn C dX5_comes_52 1 rfl rfl ?_
  refine g_get C fx5 w_0 0 0 (v := .ref (a 1)) rfl (by decide) w_1 rfl dX5_comes_53 ?_
  refine g_iload C dX5_comes_56 0 rfl ?_
  refine g_iconst C 4 dX5_comes_58 (by decide) ?_
  refine g_iadd C dX5_comes_59 ?_
  refine g_iconst C 0 dX5_comes_60 (by decide) ?_
  refine g_iast C 1 (((7 + (5 * N)) + 4)) (f := (upd (upd (upd (upd (m_s v) (7 + (5 * N)) x1) ((7 + (5 * N)) + 1) x2) ((7 + (5 * N)) + 2) x3) ((7 + (5 * N)) + 3) x4)) rfl (ix_add rfl rfl) (by omega) (by decide) dX5_comes_61 (mw q a ((upd (upd (upd (upd (upd (m_s v) (7 + (5 * N)) x1) ((7 + (5 * N)) + 1) x2) ((7 + (5 * N)) + 2) x3) ((7 + (5 * N)) + 3) x4) ((7 + (5 * N)) + 4) 0), (m_held v), (m_aside v), (m_before v), (m_untried v), (m_isHeld v), (m_tape v), (m_taped v), (m_token v), (m_from v), (m_to v), (m_value v), (m_isWrong v), (m_heard v), (m_isMoved v), (m_rows v), (m_rowN v), (m_sortOf v), (m_sizeOf v), (m_numbers v), (m_holdsWhat v), (m_holdsWhich v), (m_holdsMany v), (m_bodies v), (m_ran v), (m_actKind v), (m_actN v), (m_actA v), (m_isParted v))) rfl ?_
  refine g_aloadn C dX5_comes_62 1 rfl rfl ?_
  refine g_get C fx5 w_0 0 0 (v := .ref (a 1)) rfl (by decide) w_1 rfl dX5_comes_63 ?_
  refine g_iconst C 0 dX5_comes_66 (by decide) ?_
  refine g_dup2 C dX5_comes_67 rfl rfl ?_
  refine g_iald C 1 (0) (f := (upd (upd (upd (upd (upd (m_s v) (7 + (5 * N)) x1) ((7 + (5 * N)) + 1) x2) ((7 + (5 * N)) + 2) x3) ((7 + (5 * N)) + 3) x4) ((7 + (5 * N)) + 4) 0)) rfl rfl (by omega) (by decide) dX5_comes_68 ?_
  refine g_topci (nI N) (by rw [pk_un (by omega), pk_un (by omega), pk_un (by omega), pk_un (by omega), pk_un (by omega)]; exact hN) ?_
  refine g_iconst C 1 dX5_comes_69 (by decide) ?_
  refine g_iadd C dX5_comes_70 ?_
  refine g_topci (nI (N + 1)) (nI_add N 1) ?_
  refine g_iast C 1 (0) (f := (upd (upd (upd (upd (upd (m_s v) (7 + (5 * N)) x1) ((7 + (5 * N)) + 1) x2) ((7 + (5 * N)) + 2) x3) ((7 + (5 * N)) + 3) x4) ((7 + (5 * N)) + 4) 0)) rfl rfl (by omega) (by decide) dX5_comes_71 (mw q a ((upd (upd (upd (upd (upd (upd (m_s v) (7 + (5 * N)) x1) ((7 + (5 * N)) + 1) x2) ((7 + (5 * N)) + 2) x3) ((7 + (5 * N)) + 3) x4) ((7 + (5 * N)) + 4) 0) 0 (nI (N + 1))), (m_held v), (m_aside v), (m_before v), (m_untried v), (m_isHeld v), (m_tape v), (m_taped v), (m_token v), (m_from v), (m_to v), (m_value v), (m_isWrong v), (m_heard v), (m_isMoved v), (m_rows v), (m_rowN v), (m_sortOf v), (m_sizeOf v), (m_numbers v), (m_holdsWhat v), (m_holdsWhich v), (m_holdsMany v), (m_bodies v), (m_ran v), (m_actKind v), (m_actN v), (m_actA v), (m_isParted v))) rfl ?_
  refine g_wsc (mw q a ((cmS (m_s v) N x1 x2 x3 x4), (m_held v), (m_aside v), (m_before v), (m_untried v), (m_isHeld v), (m_tape v), (m_taped v), (m_token v), (m_from v), (m_to v), (m_value v), (m_isWrong v), (m_heard v), (m_isMoved v), (m_rows v), (m_rowN v), (m_sortOf v), (m_sizeOf v), (m_numbers v), (m_holdsWhat v), (m_holdsWhich v), (m_holdsMany v), (m_bodies v), (m_ran v), (m_actKind v), (m_actN v), (m_actA v), (m_isParted v))) (rfl) ?_
  exact g_vret C () hr dX5_comes_72 (Nat.le_of_ble_eq_true rfl) (Nat.le_of_ble_eq_true rfl) rfl (trivial)

set_option maxRecDepth 100000 in
set_option maxHeartbeats 4000000 in
theorem k_X5_person (l : Launch) (D : va_G) (q : Nat → ClassId) (tt : Nat → Nat) (a : Nat → Nat) (v : MC) (N : Nat) (x : Int32) (y : Int32) (z : Int32) (t : Int32) (hG : Gd (m_s v) N) : MI l D q tt yX5_person wsX5_person ({ frames := 1, cells := 0, slots := 0, locals := 25 } : Room) [.ref (a 0), .int x, .int y, .int z, .int t] (mw q a v) (fun (r : Int32) (u : Nat → Int32) => r = R_person N x y z t ∧ u = S_person (m_s v) N x y z t) (fun u => (mw q a (u, (m_held v), (m_aside v), (m_before v), (m_untried v), (m_isHeld v), (m_tape v), (m_taped v), (m_token v), (m_from v), (m_to v), (m_value v), (m_isWrong v), (m_heard v), (m_isMoved v), (m_rows v), (m_rowN v), (m_sortOf v), (m_sizeOf v), (m_numbers v), (m_holdsWhat v), (m_holdsWhich v), (m_holdsMany v), (m_bodies v), (m_ran v), (m_actKind v), (m_actN v), (m_actA v), (m_isParted v)))) 0 0 := by
  refine MI.of RX5 [(0, .ref (a 0)), (1, .int x), (2, .int y), (3, .int z), (4, .int t)] (by decide) rfl rfl (Nat.le_of_ble_eq_true rfl) rfl ?_
  intro p e s m args below meth c A C hr hnm
  have w_0 : Cond.constantLong RX5 162 (5) ∈ wsX5_person := by decide +kernel
  have w_1 : Cond.constantLong RX5 154 (99) ∈ wsX5_person := by decide +kernel
  have w_2 : Cond.constantLong RX5 156 (9) ∈ wsX5_person := by decide +kernel
  have w_3 : ∀ w ∈ u_ws RX5 TX5 29, w ∈ wsX5_person := by decide +kernel
  have w_4 : Cond.fieldLink RX5 7 (TX5 0).1 (TX5 0).2.1 (TX5 0).2.2.1 ∈ wsX5_person := by decide +kernel
  have h8 := hG.le
  refine g_iloadn C dX5_person_0 1 rfl rfl ?_
  refine g_i2l C dX5_person_1 ?_
  refine g_lconst C 0 dX5_person_2 (by decide) ?_
  refine g_ldc2 C (5) dX5_person_3 w_0 ?_
  refine g_call0i C (rd_S C (k_isIn32 l D q tt (x) 0 (5) 0 (5) (by first | rfl | decide) (by first | rfl | decide)) gX5_person_X5_isIn rfl rfl rfl 3 ok_X5_isIn (rest := []) rfl rfl (Nat.le_of_ble_eq_true rfl) dX5_person_6 ⟨(Nat.le_of_ble_eq_true rfl), (Nat.le_of_ble_eq_true rfl)⟩ ⟨(Nat.le_of_ble_eq_true rfl), (Nat.le_of_ble_eq_true rfl)⟩) (fun _ => rfl) (fun r_6 _ h_6 => ?_)
  obtain rfl := h_6
  refine g_ifeqE C 44 dX5_person_9 rfl rfl (fun c_9 => ?_) (fun c_9 => ?_)
  · refine g_iconst C (-1) dX5_person_44 (by decide) ?_
    exact g_iret C (m_s v) hr dX5_person_45 (Nat.le_of_ble_eq_true rfl) (Nat.le_of_ble_eq_true rfl) rfl (by unfold R_person S_person; (repeat' split) <;> first | rfl | exact ⟨rfl, rfl⟩ | (exfalso; simp only [lg_lt0, lg_gt0, w_le, w_lt, Int32.lt_iff_toInt_lt, Int32.le_iff_toInt_le, ← Int32.toInt_inj, tI_0, tI_1, tI_2, tI_3, tI_4, tI_5, tI_6, tI_7, tI_8, tI_9, tI_10, tI_13, tI_19, tI_20, tI_30, tI_32, tI_40, tI_48, tI_57, tI_59, tI_60, tI_97, tI_99, tI_100, tI_122, tI_200, tI_m1, tI_m2, tI_m3, tI_39, not_and, not_or] at * <;> omega))
  · refine g_iloadn C dX5_person_12 2 rfl rfl ?_
    refine g_i2l C dX5_person_13 ?_
    refine g_lconst C 0 dX5_person_14 (by decide) ?_
    refine g_ldc2 C (99) dX5_person_15 w_1 ?_
    refine g_call0i C (rd_S C (k_isIn32 l D q tt (y) 0 (99) 0 (99) (by first | rfl | decide) (by first | rfl | decide)) gX5_person_X5_isIn rfl rfl rfl 3 ok_X5_isIn (rest := []) rfl rfl (Nat.le_of_ble_eq_true rfl) dX5_person_18 ⟨(Nat.le_of_ble_eq_true rfl), (Nat.le_of_ble_eq_true rfl)⟩ ⟨(Nat.le_of_ble_eq_true rfl), (Nat.le_of_ble_eq_true rfl)⟩) (fun _ => rfl) (fun r_18 _ h_18 => ?_)
    obtain rfl := h_18
    refine g_ifeqE C 44 dX5_person_21 rfl rfl (fun c_21 => ?_) (fun c_21 => ?_)
    · refine g_iconst C (-1) dX5_person_44 (by decide) ?_
      exact g_iret C (m_s v) hr dX5_person_45 (Nat.le_of_ble_eq_true rfl) (Nat.le_of_ble_eq_true rfl) rfl (by unfold R_person S_person; (repeat' split) <;> first | rfl | exact ⟨rfl, rfl⟩ | (exfalso; simp only [lg_lt0, lg_gt0, w_le, w_lt, Int32.lt_iff_toInt_lt, Int32.le_iff_toInt_le, ← Int32.toInt_inj, tI_0, tI_1, tI_2, tI_3, tI_4, tI_5, tI_6, tI_7, tI_8, tI_9, tI_10, tI_13, tI_19, tI_20, tI_30, tI_32, tI_40, tI_48, tI_57, tI_59, tI_60, tI_97, tI_99, tI_100, tI_122, tI_200, tI_m1, tI_m2, tI_m3, tI_39, not_and, not_or] at * <;> omega))
    · refine g_iloadn C dX5_person_24 3 rfl rfl ?_
      refine g_i2l C dX5_person_25 ?_
      refine g_lconst C 0 dX5_person_26 (by decide) ?_
      refine g_ldc2 C (9) dX5_person_27 w_2 ?_
      refine g_call0i C (rd_S C (k_isIn32 l D q tt (z) 0 (9) 0 (9) (by first | rfl | decide) (by first | rfl | decide)) gX5_person_X5_isIn rfl rfl rfl 3 ok_X5_isIn (rest := []) rfl rfl (Nat.le_of_ble_eq_true rfl) dX5_person_30 ⟨(Nat.le_of_ble_eq_true rfl), (Nat.le_of_ble_eq_true rfl)⟩ ⟨(Nat.le_of_ble_eq_true rfl), (Nat.le_of_ble_eq_true rfl)⟩) (fun _ => rfl) (fun r_30 _ h_30 => ?_)
      obtain rfl := h_30
      refine g_ifeqE C 44 dX5_person_33 rfl rfl (fun c_33 => ?_) (fun c_33 => ?_)
      · refine g_iconst C (-1) dX5_person_44 (by decide) ?_
        exact g_iret C (m_s v) hr dX5_person_45 (Nat.le_of_ble_eq_true rfl) (Nat.le_of_ble_eq_true rfl) rfl (by unfold R_person S_person; (repeat' split) <;> first | rfl | exact ⟨rfl, rfl⟩ | (exfalso; simp only [lg_lt0, lg_gt0, w_le, w_lt, Int32.lt_iff_toInt_lt, Int32.le_iff_toInt_le, ← Int32.toInt_inj, tI_0, tI_1, tI_2, tI_3, tI_4, tI_5, tI_6, tI_7, tI_8, tI_9, tI_10, tI_13, tI_19, tI_20, tI_30, tI_32, tI_40, tI_48, tI_57, tI_59, tI_60, tI_97, tI_99, tI_100, tI_122, tI_200, tI_m1, tI_m2, tI_m3, tI_39, not_and, not_or] at * <;> omega))
      · refine g_iload C dX5_person_36 4 rfl ?_
        refine g_call0i C (rd_S C (k_X5_isRoom l D q tt t ) gX5_person_X5_isRoom rfl rfl rfl 1 ok_X5_isRoom (rest := []) rfl rfl (Nat.le_of_ble_eq_true rfl) dX5_person_38 ⟨(Nat.le_of_ble_eq_true rfl), (Nat.le_of_ble_eq_true rfl)⟩ ⟨(Nat.le_of_ble_eq_true rfl), (Nat.le_of_ble_eq_true rfl)⟩) (fun _ => rfl) (fun r_38 _ h_38 => ?_)
        obtain rfl := h_38
        refine g_ifneE C 46 dX5_person_41 rfl rfl (fun c_41 => ?_) (fun c_41 => ?_)
        · refine g_aloadn C dX5_person_46 0 rfl rfl ?_
          refine g_get C fx5 w_3 0 0 (v := .ref (a 1)) rfl (by decide) w_4 rfl dX5_person_47 ?_
          refine g_iconst C 0 dX5_person_50 (by decide) ?_
          refine g_iald C 1 (0) (f := (m_s v)) rfl rfl (by omega) (by decide) dX5_person_51 ?_
          refine g_topci (nI N) (hG.n) ?_
          refine g_bipush C 8 dX5_person_52 (by decide) ?_
          refine g_icmpN_ne C 60 (N) (8) dX5_person_54 rfl (by omega) (by omega) (fun c_54 => ?_) (fun c_54 => ?_)
          · refine g_aloadn C dX5_person_60 0 rfl rfl ?_
            refine g_iloadn C dX5_person_61 1 rfl rfl ?_
            refine g_iloadn C dX5_person_62 2 rfl rfl ?_
            refine g_iloadn C dX5_person_63 3 rfl rfl ?_
            refine g_iload C dX5_person_64 4 rfl ?_
            refine g_callAv C (rd_V C (k_X5_comes l D q tt a v N x y z t hG.n (by omega)) gX5_person_X5_comes rfl rfl rfl 4 ok_X5_comes rfl 0 rfl rfl (rest := []) rfl rfl (Nat.le_of_ble_eq_true rfl) dX5_person_66 ⟨(Nat.le_of_ble_eq_true rfl), (Nat.le_of_ble_eq_true rfl)⟩ ⟨(Nat.le_of_ble_eq_true rfl), (Nat.le_of_ble_eq_true rfl)⟩) (fun _ h_66 => ?_)
            refine g_aloadn C dX5_person_69 0 rfl rfl ?_
            refine g_get C fx5 w_3 0 0 (v := .ref (a 1)) rfl (by decide) w_4 rfl dX5_person_70 ?_
            refine g_iconst C 0 dX5_person_73 (by decide) ?_
            refine g_iald C 1 (0) (f := (cmS (m_s v) N x y z t)) rfl rfl (by omega) (by decide) dX5_person_74 ?_
            refine g_topci (nI (N + 1)) (cmS_0) ?_
            refine g_iconst C 1 dX5_person_75 (by decide) ?_
            refine g_isub C dX5_person_76 ?_
            refine g_topci (nI N) (nI_pred N) ?_
            exact g_iret C (cmS (m_s v) N x y z t) hr dX5_person_77 (Nat.le_of_ble_eq_true rfl) (Nat.le_of_ble_eq_true rfl) rfl (by unfold R_person S_person; (repeat' split) <;> first | rfl | exact ⟨rfl, rfl⟩ | (exfalso; simp only [lg_lt0, lg_gt0, w_le, w_lt, Int32.lt_iff_toInt_lt, Int32.le_iff_toInt_le, ← Int32.toInt_inj, tI_0, tI_1, tI_2, tI_3, tI_4, tI_5, tI_6, tI_7, tI_8, tI_9, tI_10, tI_13, tI_19, tI_20, tI_30, tI_32, tI_40, tI_48, tI_57, tI_59, tI_60, tI_97, tI_99, tI_100, tI_122, tI_200, tI_m1, tI_m2, tI_m3, tI_39, not_and, not_or] at * <;> omega))
          · refine g_bipush C (-2) dX5_person_57 (by decide) ?_
            exact g_iret C (m_s v) hr dX5_person_59 (Nat.le_of_ble_eq_true rfl) (Nat.le_of_ble_eq_true rfl) rfl (by unfold R_person S_person; (repeat' split) <;> first | rfl | exact ⟨rfl, rfl⟩ | (exfalso; simp only [lg_lt0, lg_gt0, w_le, w_lt, Int32.lt_iff_toInt_lt, Int32.le_iff_toInt_le, ← Int32.toInt_inj, tI_0, tI_1, tI_2, tI_3, tI_4, tI_5, tI_6, tI_7, tI_8, tI_9, tI_10, tI_13, tI_19, tI_20, tI_30, tI_32, tI_40, tI_48, tI_57, tI_59, tI_60, tI_97, tI_99, tI_100, tI_122, tI_200, tI_m1, tI_m2, tI_m3, tI_39, not_and, not_or] at * <;> omega))
        · refine g_iconst C (-1) dX5_person_44 (by decide) ?_
          exact g_iret C (m_s v) hr dX5_person_45 (Nat.le_of_ble_eq_true rfl) (Nat.le_of_ble_eq_true rfl) rfl (by unfold R_person S_person; (repeat' split) <;> first | rfl | exact ⟨rfl, rfl⟩ | (exfalso; simp only [lg_lt0, lg_gt0, w_le, w_lt, Int32.lt_iff_toInt_lt, Int32.le_iff_toInt_le, ← Int32.toInt_inj, tI_0, tI_1, tI_2, tI_3, tI_4, tI_5, tI_6, tI_7, tI_8, tI_9, tI_10, tI_13, tI_19, tI_20, tI_30, tI_32, tI_40, tI_48, tI_57, tI_59, tI_60, tI_97, tI_99, tI_100, tI_122, tI_200, tI_m1, tI_m2, tI_m3, tI_39, not_and, not_or] at * <;> omega))

set_option maxRecDepth 100000 in
set_option maxHeartbeats 4000000 in
theorem k_X5_of (l : Launch) (D : va_G) (q : Nat → ClassId) (tt : Nat → Nat) (a : Nat → Nat) (v : MC) (N : Nat) (x : Int32) (y : Int32) (hG : Gd (m_s v) N) : MI l D q tt yX5_of wsX5_of ({ frames := 1, cells := 0, slots := 0, locals := 25 } : Room) [.ref (a 0), .int x, .int y] (mw q a v) (fun (r : Int32) (u : Unit) => r = R_of (m_s v) x y) (fun (_ : Unit) => (mw q a v)) 0 0 := by
  refine MI.of RX5 [(0, .ref (a 0)), (1, .int x), (2, .int y)] (by decide) rfl rfl (Nat.le_of_ble_eq_true rfl) rfl ?_
  intro p e s m args below meth c A C hr hnm
  have w_0 : Cond.constantLong RX5 179 (4) ∈ wsX5_of := by decide +kernel
  have h8 := hG.le
  refine g_aloadn C dX5_of_0 0 rfl rfl ?_
  refine g_iloadn C dX5_of_1 1 rfl rfl ?_
  refine g_callAi C (rd_V C (k_X5_isOne l D q tt a v x ) gX5_of_X5_isOne rfl rfl rfl 1 ok_X5_isOne rfl 0 rfl rfl (rest := []) rfl rfl (Nat.le_of_ble_eq_true rfl) dX5_of_2 ⟨(Nat.le_of_ble_eq_true rfl), (Nat.le_of_ble_eq_true rfl)⟩ ⟨(Nat.le_of_ble_eq_true rfl), (Nat.le_of_ble_eq_true rfl)⟩) (fun r_2 _ h_2 => ?_)
  obtain rfl := h_2
  refine g_ifeqE C 29 dX5_of_5 rfl rfl (fun c_5 => ?_) (fun c_5 => ?_)
  · refine g_iconst C (-1) dX5_of_29 (by decide) ?_
    exact g_iret C () hr dX5_of_30 (Nat.le_of_ble_eq_true rfl) (Nat.le_of_ble_eq_true rfl) rfl (by unfold R_of; (repeat' split) <;> first | rfl | exact ⟨rfl, rfl⟩ | (rw [ec, ed]; done) | (rw [ec, ed]; exact ⟨rfl, rfl⟩) | (rw [ec, ed]; rfl) | (exfalso; simp only [lg_lt0, lg_gt0, w_le, w_lt, Int32.lt_iff_toInt_lt, Int32.le_iff_toInt_le, ← Int32.toInt_inj, tI_0, tI_1, tI_2, tI_3, tI_4, tI_5, tI_6, tI_7, tI_8, tI_9, tI_10, tI_13, tI_19, tI_20, tI_30, tI_32, tI_40, tI_48, tI_57, tI_59, tI_60, tI_97, tI_99, tI_100, tI_122, tI_200, tI_m1, tI_m2, tI_m3, tI_39, not_and, not_or] at * <;> omega))
  · refine g_iloadn C dX5_of_8 2 rfl rfl ?_
    refine g_i2l C dX5_of_9 ?_
    refine g_lconst C 0 dX5_of_10 (by decide) ?_
    refine g_ldc2 C (4) dX5_of_11 w_0 ?_
    refine g_call0i C (rd_S C (k_isIn32 l D q tt (y) 0 (4) 0 (4) (by first | rfl | decide) (by first | rfl | decide)) gX5_of_X5_isIn rfl rfl rfl 3 ok_X5_isIn (rest := []) rfl rfl (Nat.le_of_ble_eq_true rfl) dX5_of_14 ⟨(Nat.le_of_ble_eq_true rfl), (Nat.le_of_ble_eq_true rfl)⟩ ⟨(Nat.le_of_ble_eq_true rfl), (Nat.le_of_ble_eq_true rfl)⟩) (fun _ => rfl) (fun r_14 _ h_14 => ?_)
    obtain rfl := h_14
    refine g_ifeqE C 29 dX5_of_17 rfl rfl (fun c_17 => ?_) (fun c_17 => ?_)
    · refine g_iconst C (-1) dX5_of_29 (by decide) ?_
      exact g_iret C () hr dX5_of_30 (Nat.le_of_ble_eq_true rfl) (Nat.le_of_ble_eq_true rfl) rfl (by unfold R_of; (repeat' split) <;> first | rfl | exact ⟨rfl, rfl⟩ | (rw [ec, ed]; done) | (rw [ec, ed]; exact ⟨rfl, rfl⟩) | (rw [ec, ed]; rfl) | (exfalso; simp only [lg_lt0, lg_gt0, w_le, w_lt, Int32.lt_iff_toInt_lt, Int32.le_iff_toInt_le, ← Int32.toInt_inj, tI_0, tI_1, tI_2, tI_3, tI_4, tI_5, tI_6, tI_7, tI_8, tI_9, tI_10, tI_13, tI_19, tI_20, tI_30, tI_32, tI_40, tI_48, tI_57, tI_59, tI_60, tI_97, tI_99, tI_100, tI_122, tI_200, tI_m1, tI_m2, tI_m3, tI_39, not_and, not_or] at * <;> omega))
    · obtain ⟨j, hj, ej, ec⟩ := ix_one hG c_5
      obtain ⟨i, hi, ei, ed⟩ := ix_le (n := 4) (by omega) c_17
      refine g_aloadn C dX5_of_20 0 rfl rfl ?_
      refine g_iloadn C dX5_of_21 1 rfl rfl ?_
      refine g_topci (nI j) (ej) ?_
      refine g_iloadn C dX5_of_22 2 rfl rfl ?_
      refine g_topci (nI i) (ei) ?_
      refine g_callAi C (rd_V C (k_X5_its l D q tt a v j i (by first | assumption | omega) (by first | assumption | omega)) gX5_of_X5_its rfl rfl rfl 2 ok_X5_its rfl 0 rfl rfl (rest := []) rfl rfl (Nat.le_of_ble_eq_true rfl) dX5_of_23 ⟨(Nat.le_of_ble_eq_true rfl), (Nat.le_of_ble_eq_true rfl)⟩ ⟨(Nat.le_of_ble_eq_true rfl), (Nat.le_of_ble_eq_true rfl)⟩) (fun r_23 _ h_23 => ?_)
      obtain rfl := h_23
      refine g_goto C 30 dX5_of_26 rfl ?_
      exact g_iret C () hr dX5_of_30 (Nat.le_of_ble_eq_true rfl) (Nat.le_of_ble_eq_true rfl) rfl (by unfold R_of; (repeat' split) <;> first | rfl | exact ⟨rfl, rfl⟩ | (rw [ec, ed]; done) | (rw [ec, ed]; exact ⟨rfl, rfl⟩) | (rw [ec, ed]; rfl) | (exfalso; simp only [lg_lt0, lg_gt0, w_le, w_lt, Int32.lt_iff_toInt_lt, Int32.le_iff_toInt_le, ← Int32.toInt_inj, tI_0, tI_1, tI_2, tI_3, tI_4, tI_5, tI_6, tI_7, tI_8, tI_9, tI_10, tI_13, tI_19, tI_20, tI_30, tI_32, tI_40, tI_48, tI_57, tI_59, tI_60, tI_97, tI_99, tI_100, tI_122, tI_200, tI_m1, tI_m2, tI_m3, tI_39, not_and, not_or] at * <;> omega))

set_option maxRecDepth 100000 in
set_option maxHeartbeats 4000000 in
theorem k_X5_does (l : Launch) (D : va_G) (q : Nat → ClassId) (tt : Nat → Nat) (a : Nat → Nat) (v : MC) (N : Nat) (x : Int32) (y : Int32) (hG : Gd (m_s v) N) : MI l D q tt yX5_does wsX5_does ({ frames := 4, cells := 0, slots := 0, locals := 91 } : Room) [.ref (a 0), .int x, .int y] (mw q a v) (fun (r : Int32) (u : Unit) => r = R_does (m_s v) N x y) (fun (_ : Unit) => (mw q a v)) 0 0 := by
  refine MI.of RX5 [(0, .ref (a 0)), (1, .int x), (2, .int y)] (by decide) rfl rfl (Nat.le_of_ble_eq_true rfl) rfl ?_
  intro p e s m args below meth c A C hr hnm
  have w_0 : Cond.constantLong RX5 181 (2) ∈ wsX5_does := by decide +kernel
  have h8 := hG.le
  refine g_aloadn C dX5_does_0 0 rfl rfl ?_
  refine g_iloadn C dX5_does_1 1 rfl rfl ?_
  refine g_callAi C (rd_V C (k_X5_isOne l D q tt a v x ) gX5_does_X5_isOne rfl rfl rfl 1 ok_X5_isOne rfl 0 rfl rfl (rest := []) rfl rfl (Nat.le_of_ble_eq_true rfl) dX5_does_2 ⟨(Nat.le_of_ble_eq_true rfl), (Nat.le_of_ble_eq_true rfl)⟩ ⟨(Nat.le_of_ble_eq_true rfl), (Nat.le_of_ble_eq_true rfl)⟩) (fun r_2 _ h_2 => ?_)
  obtain rfl := h_2
  refine g_ifeqE C 20 dX5_does_5 rfl rfl (fun c_5 => ?_) (fun c_5 => ?_)
  · refine g_iconst C (-1) dX5_does_20 (by decide) ?_
    exact g_iret C () hr dX5_does_21 (Nat.le_of_ble_eq_true rfl) (Nat.le_of_ble_eq_true rfl) rfl (by unfold R_does; (repeat' split) <;> first | rfl | exact ⟨rfl, rfl⟩ | (rw [ec]; done) | (rw [ec]; exact ⟨rfl, rfl⟩) | (rw [ec]; rfl) | (exfalso; simp only [lg_lt0, lg_gt0, w_le, w_lt, Int32.lt_iff_toInt_lt, Int32.le_iff_toInt_le, ← Int32.toInt_inj, tI_0, tI_1, tI_2, tI_3, tI_4, tI_5, tI_6, tI_7, tI_8, tI_9, tI_10, tI_13, tI_19, tI_20, tI_30, tI_32, tI_40, tI_48, tI_57, tI_59, tI_60, tI_97, tI_99, tI_100, tI_122, tI_200, tI_m1, tI_m2, tI_m3, tI_39, not_and, not_or] at * <;> omega))
  · refine g_iloadn C dX5_does_8 2 rfl rfl ?_
    refine g_i2l C dX5_does_9 ?_
    refine g_lconst C 0 dX5_does_10 (by decide) ?_
    refine g_ldc2 C (2) dX5_does_11 w_0 ?_
    refine g_call0i C (rd_S C (k_isIn32 l D q tt (y) 0 (2) 0 (2) (by first | rfl | decide) (by first | rfl | decide)) gX5_does_X5_isIn rfl rfl rfl 3 ok_X5_isIn (rest := []) rfl rfl (Nat.le_of_ble_eq_true rfl) dX5_does_14 ⟨(Nat.le_of_ble_eq_true rfl), (Nat.le_of_ble_eq_true rfl)⟩ ⟨(Nat.le_of_ble_eq_true rfl), (Nat.le_of_ble_eq_true rfl)⟩) (fun _ => rfl) (fun r_14 _ h_14 => ?_)
    obtain rfl := h_14
    refine g_ifneE C 22 dX5_does_17 rfl rfl (fun c_17 => ?_) (fun c_17 => ?_)
    · obtain ⟨j, hj, ej, ec⟩ := ix_one hG c_5
      refine g_sipush C 1000 dX5_does_22 (by decide) ?_
      refine g_iloadn C dX5_does_25 2 rfl rfl ?_
      refine g_if_ne C 37 dX5_does_26 rfl (fun c_26 => ?_) (fun c_26 => ?_)
      · refine g_iloadn C dX5_does_37 2 rfl rfl ?_
        refine g_iconst C 1 dX5_does_38 (by decide) ?_
        refine g_icmp_ne C 50 dX5_does_39 rfl (fun c_39 => ?_) (fun c_39 => ?_)
        · refine g_aloadn C dX5_does_50 0 rfl rfl ?_
          refine g_iloadn C dX5_does_51 1 rfl rfl ?_
          refine g_topci (nI j) (ej) ?_
          refine g_callAi C (rd_V C (k_X5_hears l D q tt a v N j (by first | assumption | omega) (by first | assumption | omega)) gX5_does_X5_hears rfl rfl rfl 1 ok_X5_hears rfl 0 rfl rfl (rest := [.int 1000]) rfl rfl (Nat.le_of_ble_eq_true rfl) dX5_does_52 ⟨(Nat.le_of_ble_eq_true rfl), (Nat.le_of_ble_eq_true rfl)⟩ ⟨(Nat.le_of_ble_eq_true rfl), (Nat.le_of_ble_eq_true rfl)⟩) (fun r_52 _ h_52 => ?_)
          obtain rfl := h_52
          refine g_iadd C dX5_does_55 ?_
          exact g_iret C () hr dX5_does_56 (Nat.le_of_ble_eq_true rfl) (Nat.le_of_ble_eq_true rfl) rfl (by unfold R_does; (repeat' split) <;> first | rfl | exact ⟨rfl, rfl⟩ | (rw [ec]; done) | (rw [ec]; exact ⟨rfl, rfl⟩) | (rw [ec]; rfl) | (exfalso; simp only [lg_lt0, lg_gt0, w_le, w_lt, Int32.lt_iff_toInt_lt, Int32.le_iff_toInt_le, ← Int32.toInt_inj, tI_0, tI_1, tI_2, tI_3, tI_4, tI_5, tI_6, tI_7, tI_8, tI_9, tI_10, tI_13, tI_19, tI_20, tI_30, tI_32, tI_40, tI_48, tI_57, tI_59, tI_60, tI_97, tI_99, tI_100, tI_122, tI_200, tI_m1, tI_m2, tI_m3, tI_39, not_and, not_or] at * <;> omega))
        · refine g_aloadn C dX5_does_42 0 rfl rfl ?_
          refine g_iloadn C dX5_does_43 1 rfl rfl ?_
          refine g_topci (nI j) (ej) ?_
          refine g_callAi C (rd_V C (k_X5_needsOf l D q tt a v N j (by first | assumption | omega) (by first | assumption | omega)) gX5_does_X5_needsOf rfl rfl rfl 1 ok_X5_needsOf rfl 0 rfl rfl (rest := [.int 1000]) rfl rfl (Nat.le_of_ble_eq_true rfl) dX5_does_44 ⟨(Nat.le_of_ble_eq_true rfl), (Nat.le_of_ble_eq_true rfl)⟩ ⟨(Nat.le_of_ble_eq_true rfl), (Nat.le_of_ble_eq_true rfl)⟩) (fun r_44 _ h_44 => ?_)
          obtain rfl := h_44
          refine g_goto C 55 dX5_does_47 rfl ?_
          refine g_iadd C dX5_does_55 ?_
          exact g_iret C () hr dX5_does_56 (Nat.le_of_ble_eq_true rfl) (Nat.le_of_ble_eq_true rfl) rfl (by unfold R_does; (repeat' split) <;> first | rfl | exact ⟨rfl, rfl⟩ | (rw [ec]; done) | (rw [ec]; exact ⟨rfl, rfl⟩) | (rw [ec]; rfl) | (exfalso; simp only [lg_lt0, lg_gt0, w_le, w_lt, Int32.lt_iff_toInt_lt, Int32.le_iff_toInt_le, ← Int32.toInt_inj, tI_0, tI_1, tI_2, tI_3, tI_4, tI_5, tI_6, tI_7, tI_8, tI_9, tI_10, tI_13, tI_19, tI_20, tI_30, tI_32, tI_40, tI_48, tI_57, tI_59, tI_60, tI_97, tI_99, tI_100, tI_122, tI_200, tI_m1, tI_m2, tI_m3, tI_39, not_and, not_or] at * <;> omega))
      · refine g_aloadn C dX5_does_29 0 rfl rfl ?_
        refine g_iloadn C dX5_does_30 1 rfl rfl ?_
        refine g_topci (nI j) (ej) ?_
        refine g_callAi C (rd_V C (k_X5_loud l D q tt a v j (by first | assumption | omega)) gX5_does_X5_loud rfl rfl rfl 1 ok_X5_loud rfl 0 rfl rfl (rest := [.int 1000]) rfl rfl (Nat.le_of_ble_eq_true rfl) dX5_does_31 ⟨(Nat.le_of_ble_eq_true rfl), (Nat.le_of_ble_eq_true rfl)⟩ ⟨(Nat.le_of_ble_eq_true rfl), (Nat.le_of_ble_eq_true rfl)⟩) (fun r_31 _ h_31 => ?_)
        obtain rfl := h_31
        refine g_goto C 55 dX5_does_34 rfl ?_
        refine g_iadd C dX5_does_55 ?_
        exact g_iret C () hr dX5_does_56 (Nat.le_of_ble_eq_true rfl) (Nat.le_of_ble_eq_true rfl) rfl (by unfold R_does; (repeat' split) <;> first | rfl | exact ⟨rfl, rfl⟩ | (rw [ec]; done) | (rw [ec]; exact ⟨rfl, rfl⟩) | (rw [ec]; rfl) | (exfalso; simp only [lg_lt0, lg_gt0, w_le, w_lt, Int32.lt_iff_toInt_lt, Int32.le_iff_toInt_le, ← Int32.toInt_inj, tI_0, tI_1, tI_2, tI_3, tI_4, tI_5, tI_6, tI_7, tI_8, tI_9, tI_10, tI_13, tI_19, tI_20, tI_30, tI_32, tI_40, tI_48, tI_57, tI_59, tI_60, tI_97, tI_99, tI_100, tI_122, tI_200, tI_m1, tI_m2, tI_m3, tI_39, not_and, not_or] at * <;> omega))
    · refine g_iconst C (-1) dX5_does_20 (by decide) ?_
      exact g_iret C () hr dX5_does_21 (Nat.le_of_ble_eq_true rfl) (Nat.le_of_ble_eq_true rfl) rfl (by unfold R_does; (repeat' split) <;> first | rfl | exact ⟨rfl, rfl⟩ | (rw [ec]; done) | (rw [ec]; exact ⟨rfl, rfl⟩) | (rw [ec]; rfl) | (exfalso; simp only [lg_lt0, lg_gt0, w_le, w_lt, Int32.lt_iff_toInt_lt, Int32.le_iff_toInt_le, ← Int32.toInt_inj, tI_0, tI_1, tI_2, tI_3, tI_4, tI_5, tI_6, tI_7, tI_8, tI_9, tI_10, tI_13, tI_19, tI_20, tI_30, tI_32, tI_40, tI_48, tI_57, tI_59, tI_60, tI_97, tI_99, tI_100, tI_122, tI_200, tI_m1, tI_m2, tI_m3, tI_39, not_and, not_or] at * <;> omega))

