set_option maxRecDepth 100000 in
set_option maxHeartbeats 4000000 in
theorem k_X5_mind (l : Launch) (D : va_G) (q : Nat → ClassId) (tt : Nat → Nat) (a : Nat → Nat) (v : MC) (N : Nat) (x : Int32) (y : Int32) (z : Int32) (hG : Gd (m_s v) N) : MI l D q tt yX5_mind wsX5_mind ({ frames := 1, cells := 0, slots := 0, locals := 25 } : Room) [.ref (a 0), .int x, .int y, .int z] (mw q a v) (fun (r : Int32) (u : Nat → Int32) => r = R_mind (m_s v) x y z ∧ u = S_mind (m_s v) x y z) (fun u => (mw q a (u, (m_held v), (m_aside v), (m_before v), (m_untried v), (m_isHeld v), (m_tape v), (m_taped v), (m_token v), (m_from v), (m_to v), (m_value v), (m_isWrong v), (m_heard v), (m_isMoved v), (m_rows v), (m_rowN v), (m_sortOf v), (m_sizeOf v), (m_numbers v), (m_holdsWhat v), (m_holdsWhich v), (m_holdsMany v), (m_bodies v), (m_ran v), (m_actKind v), (m_actN v), (m_actA v), (m_isParted v)))) 0 0 := by
  refine MI.of RX5 [(0, .ref (a 0)), (1, .int x), (2, .int y), (3, .int z)] (by decide) rfl rfl (Nat.le_of_ble_eq_true rfl) rfl ?_
  intro p e s m args below meth c A C hr hnm
  have w_0 : Cond.constantLong RX5 162 (5) ∈ wsX5_mind := by decide +kernel
  have w_1 : Cond.constantLong RX5 156 (9) ∈ wsX5_mind := by decide +kernel
  have w_2 : ∀ w ∈ u_ws RX5 TX5 29, w ∈ wsX5_mind := by decide +kernel
  have w_3 : Cond.fieldLink RX5 7 (TX5 0).1 (TX5 0).2.1 (TX5 0).2.2.1 ∈ wsX5_mind := by decide +kernel
  have h8 := hG.le
  refine g_aloadn C dX5_mind_0 0 rfl rfl ?_
  refine g_iloadn C dX5_mind_1 1 rfl rfl ?_
  refine g_callAi C (rd_V C (k_X5_isOne l D q tt a v x ) gX5_mind_X5_isOne rfl rfl rfl 1 ok_X5_isOne rfl 0 rfl rfl (rest := []) rfl rfl (Nat.le_of_ble_eq_true rfl) dX5_mind_2 ⟨(Nat.le_of_ble_eq_true rfl), (Nat.le_of_ble_eq_true rfl)⟩ ⟨(Nat.le_of_ble_eq_true rfl), (Nat.le_of_ble_eq_true rfl)⟩) (fun r_2 _ h_2 => ?_)
  obtain rfl := h_2
  refine g_ifeqE C 32 dX5_mind_5 rfl rfl (fun c_5 => ?_) (fun c_5 => ?_)
  · refine g_iconst C (-1) dX5_mind_32 (by decide) ?_
    exact g_iret C (m_s v) hr dX5_mind_33 (Nat.le_of_ble_eq_true rfl) (Nat.le_of_ble_eq_true rfl) rfl (by unfold R_mind S_mind; (repeat' split) <;> first | exact ⟨rfl, rfl⟩ | (rw [ec]; exact ⟨pk_un (by omega), rfl⟩) | (exfalso; simp only [lg_lt0, lg_gt0, w_le, w_lt, Int32.lt_iff_toInt_lt, Int32.le_iff_toInt_le, ← Int32.toInt_inj, tI_0, tI_1, tI_2, tI_3, tI_4, tI_5, tI_6, tI_7, tI_8, tI_9, tI_10, tI_13, tI_19, tI_20, tI_30, tI_32, tI_40, tI_48, tI_57, tI_59, tI_60, tI_97, tI_99, tI_100, tI_122, tI_200, tI_m1, tI_m2, tI_m3, tI_39, not_and, not_or] at * <;> omega))
  · refine g_iloadn C dX5_mind_8 2 rfl rfl ?_
    refine g_i2l C dX5_mind_9 ?_
    refine g_lconst C 0 dX5_mind_10 (by decide) ?_
    refine g_ldc2 C (5) dX5_mind_11 w_0 ?_
    refine g_call0i C (rd_S C (k_isIn32 l D q tt (y) 0 (5) 0 (5) (by first | rfl | decide) (by first | rfl | decide)) gX5_mind_X5_isIn rfl rfl rfl 3 ok_X5_isIn (rest := []) rfl rfl (Nat.le_of_ble_eq_true rfl) dX5_mind_14 ⟨(Nat.le_of_ble_eq_true rfl), (Nat.le_of_ble_eq_true rfl)⟩ ⟨(Nat.le_of_ble_eq_true rfl), (Nat.le_of_ble_eq_true rfl)⟩) (fun _ => rfl) (fun r_14 _ h_14 => ?_)
    obtain rfl := h_14
    refine g_ifeqE C 32 dX5_mind_17 rfl rfl (fun c_17 => ?_) (fun c_17 => ?_)
    · refine g_iconst C (-1) dX5_mind_32 (by decide) ?_
      exact g_iret C (m_s v) hr dX5_mind_33 (Nat.le_of_ble_eq_true rfl) (Nat.le_of_ble_eq_true rfl) rfl (by unfold R_mind S_mind; (repeat' split) <;> first | exact ⟨rfl, rfl⟩ | (rw [ec]; exact ⟨pk_un (by omega), rfl⟩) | (exfalso; simp only [lg_lt0, lg_gt0, w_le, w_lt, Int32.lt_iff_toInt_lt, Int32.le_iff_toInt_le, ← Int32.toInt_inj, tI_0, tI_1, tI_2, tI_3, tI_4, tI_5, tI_6, tI_7, tI_8, tI_9, tI_10, tI_13, tI_19, tI_20, tI_30, tI_32, tI_40, tI_48, tI_57, tI_59, tI_60, tI_97, tI_99, tI_100, tI_122, tI_200, tI_m1, tI_m2, tI_m3, tI_39, not_and, not_or] at * <;> omega))
    · refine g_iloadn C dX5_mind_20 3 rfl rfl ?_
      refine g_i2l C dX5_mind_21 ?_
      refine g_lconst C 0 dX5_mind_22 (by decide) ?_
      refine g_ldc2 C (9) dX5_mind_23 w_1 ?_
      refine g_call0i C (rd_S C (k_isIn32 l D q tt (z) 0 (9) 0 (9) (by first | rfl | decide) (by first | rfl | decide)) gX5_mind_X5_isIn rfl rfl rfl 3 ok_X5_isIn (rest := []) rfl rfl (Nat.le_of_ble_eq_true rfl) dX5_mind_26 ⟨(Nat.le_of_ble_eq_true rfl), (Nat.le_of_ble_eq_true rfl)⟩ ⟨(Nat.le_of_ble_eq_true rfl), (Nat.le_of_ble_eq_true rfl)⟩) (fun _ => rfl) (fun r_26 _ h_26 => ?_)
      obtain rfl := h_26
      refine g_ifneE C 34 dX5_mind_29 rfl rfl (fun c_29 => ?_) (fun c_29 => ?_)
      · obtain ⟨j, hj, ej, ec⟩ := ix_one hG c_5
        refine g_aloadn C dX5_mind_34 0 rfl rfl ?_
        refine g_get C fx5 w_2 0 0 (v := .ref (a 1)) rfl (by decide) w_3 rfl dX5_mind_35 ?_
        refine g_bipush C 7 dX5_mind_38 (by decide) ?_
        refine g_iconst C 5 dX5_mind_40 (by decide) ?_
        refine g_iloadn C dX5_mind_41 1 rfl rfl ?_
        refine g_topci (nI j) (ej) ?_
        refine g_imul C dX5_mind_42 ?_
        refine g_iadd C dX5_mind_43 ?_
        refine g_iconst C 2 dX5_mind_44 (by decide) ?_
        refine g_iadd C dX5_mind_45 ?_
        refine g_iloadn C dX5_mind_46 3 rfl rfl ?_
        refine g_iast C 1 (((7 + (5 * j)) + 2)) (f := (m_s v)) rfl (ix_add (ix_add rfl (ix_mul rfl rfl)) rfl) (by omega) (by decide) dX5_mind_47 (mw q a ((upd (m_s v) ((7 + (5 * j)) + 2) z), (m_held v), (m_aside v), (m_before v), (m_untried v), (m_isHeld v), (m_tape v), (m_taped v), (m_token v), (m_from v), (m_to v), (m_value v), (m_isWrong v), (m_heard v), (m_isMoved v), (m_rows v), (m_rowN v), (m_sortOf v), (m_sizeOf v), (m_numbers v), (m_holdsWhat v), (m_holdsWhich v), (m_holdsMany v), (m_bodies v), (m_ran v), (m_actKind v), (m_actN v), (m_actA v), (m_isParted v))) rfl ?_
        refine g_aloadn C dX5_mind_48 0 rfl rfl ?_
        refine g_bipush C 7 dX5_mind_49 (by decide) ?_
        refine g_iconst C 5 dX5_mind_51 (by decide) ?_
        refine g_iloadn C dX5_mind_52 1 rfl rfl ?_
        refine g_topci (nI j) (ej) ?_
        refine g_imul C dX5_mind_53 ?_
        refine g_iadd C dX5_mind_54 ?_
        refine g_topci (nI (7 + (5 * j))) ((ix_add rfl (ix_mul rfl rfl))) ?_
        refine g_iloadn C dX5_mind_55 2 rfl rfl ?_
        refine g_callAi C (rd_V C (k_X5_becomes l D q tt a ((upd (m_s v) ((7 + (5 * j)) + 2) z), (m_held v), (m_aside v), (m_before v), (m_untried v), (m_isHeld v), (m_tape v), (m_taped v), (m_token v), (m_from v), (m_to v), (m_value v), (m_isWrong v), (m_heard v), (m_isMoved v), (m_rows v), (m_rowN v), (m_sortOf v), (m_sizeOf v), (m_numbers v), (m_holdsWhat v), (m_holdsWhich v), (m_holdsMany v), (m_bodies v), (m_ran v), (m_actKind v), (m_actN v), (m_actA v), (m_isParted v)) (7 + (5 * j)) y (by first | assumption | omega)) gX5_mind_X5_becomes rfl rfl rfl 2 ok_X5_becomes rfl 0 rfl rfl (rest := []) rfl rfl (Nat.le_of_ble_eq_true rfl) dX5_mind_56 ⟨(Nat.le_of_ble_eq_true rfl), (Nat.le_of_ble_eq_true rfl)⟩ ⟨(Nat.le_of_ble_eq_true rfl), (Nat.le_of_ble_eq_true rfl)⟩) (fun r_56 _ h_56 => ?_)
        obtain rfl := h_56
        refine g_wsc (mw q a ((upd (upd (m_s v) ((7 + (5 * j)) + 2) z) (7 + (5 * j)) y), (m_held v), (m_aside v), (m_before v), (m_untried v), (m_isHeld v), (m_tape v), (m_taped v), (m_token v), (m_from v), (m_to v), (m_value v), (m_isWrong v), (m_heard v), (m_isMoved v), (m_rows v), (m_rowN v), (m_sortOf v), (m_sizeOf v), (m_numbers v), (m_holdsWhat v), (m_holdsWhich v), (m_holdsMany v), (m_bodies v), (m_ran v), (m_actKind v), (m_actN v), (m_actA v), (m_isParted v))) rfl ?_
        refine g_topci ((upd (m_s v) ((7 + (5 * j)) + 2) z) (7 + (5 * j))) rfl ?_
        exact g_iret C (upd (upd (m_s v) ((7 + (5 * j)) + 2) z) (7 + (5 * j)) y) hr dX5_mind_59 (Nat.le_of_ble_eq_true rfl) (Nat.le_of_ble_eq_true rfl) rfl (by unfold R_mind S_mind; (repeat' split) <;> first | exact ⟨rfl, rfl⟩ | (rw [ec]; exact ⟨pk_un (by omega), rfl⟩) | (exfalso; simp only [lg_lt0, lg_gt0, w_le, w_lt, Int32.lt_iff_toInt_lt, Int32.le_iff_toInt_le, ← Int32.toInt_inj, tI_0, tI_1, tI_2, tI_3, tI_4, tI_5, tI_6, tI_7, tI_8, tI_9, tI_10, tI_13, tI_19, tI_20, tI_30, tI_32, tI_40, tI_48, tI_57, tI_59, tI_60, tI_97, tI_99, tI_100, tI_122, tI_200, tI_m1, tI_m2, tI_m3, tI_39, not_and, not_or] at * <;> omega))
      · refine g_iconst C (-1) dX5_mind_32 (by decide) ?_
        exact g_iret C (m_s v) hr dX5_mind_33 (Nat.le_of_ble_eq_true rfl) (Nat.le_of_ble_eq_true rfl) rfl (by unfold R_mind S_mind; (repeat' split) <;> first | exact ⟨rfl, rfl⟩ | (rw [ec]; exact ⟨pk_un (by omega), rfl⟩) | (exfalso; simp only [lg_lt0, lg_gt0, w_le, w_lt, Int32.lt_iff_toInt_lt, Int32.le_iff_toInt_le, ← Int32.toInt_inj, tI_0, tI_1, tI_2, tI_3, tI_4, tI_5, tI_6, tI_7, tI_8, tI_9, tI_10, tI_13, tI_19, tI_20, tI_30, tI_32, tI_40, tI_48, tI_57, tI_59, tI_60, tI_97, tI_99, tI_100, tI_122, tI_200, tI_m1, tI_m2, tI_m3, tI_39, not_and, not_or] at * <;> omega))

set_option maxRecDepth 100000 in
set_option maxHeartbeats 4000000 in
theorem k_X5_pride (l : Launch) (D : va_G) (q : Nat → ClassId) (tt : Nat → Nat) (a : Nat → Nat) (v : MC) (N : Nat) (x : Int32) (y : Int32) (hG : Gd (m_s v) N) : MI l D q tt yX5_pride wsX5_pride ({ frames := 1, cells := 0, slots := 0, locals := 25 } : Room) [.ref (a 0), .int x, .int y] (mw q a v) (fun (r : Int32) (u : Nat → Int32) => r = R_pride (m_s v) x y ∧ u = S_pride (m_s v) x y) (fun u => (mw q a (u, (m_held v), (m_aside v), (m_before v), (m_untried v), (m_isHeld v), (m_tape v), (m_taped v), (m_token v), (m_from v), (m_to v), (m_value v), (m_isWrong v), (m_heard v), (m_isMoved v), (m_rows v), (m_rowN v), (m_sortOf v), (m_sizeOf v), (m_numbers v), (m_holdsWhat v), (m_holdsWhich v), (m_holdsMany v), (m_bodies v), (m_ran v), (m_actKind v), (m_actN v), (m_actA v), (m_isParted v)))) 0 0 := by
  refine MI.of RX5 [(0, .ref (a 0)), (1, .int x), (2, .int y)] (by decide) rfl rfl (Nat.le_of_ble_eq_true rfl) rfl ?_
  intro p e s m args below meth c A C hr hnm
  have w_0 : Cond.constantLong RX5 154 (99) ∈ wsX5_pride := by decide +kernel
  have h8 := hG.le
  refine g_aloadn C dX5_pride_0 0 rfl rfl ?_
  refine g_iloadn C dX5_pride_1 1 rfl rfl ?_
  refine g_callAi C (rd_V C (k_X5_isOne l D q tt a v x ) gX5_pride_X5_isOne rfl rfl rfl 1 ok_X5_isOne rfl 0 rfl rfl (rest := []) rfl rfl (Nat.le_of_ble_eq_true rfl) dX5_pride_2 ⟨(Nat.le_of_ble_eq_true rfl), (Nat.le_of_ble_eq_true rfl)⟩ ⟨(Nat.le_of_ble_eq_true rfl), (Nat.le_of_ble_eq_true rfl)⟩) (fun r_2 _ h_2 => ?_)
  obtain rfl := h_2
  refine g_ifeqE C 36 dX5_pride_5 rfl rfl (fun c_5 => ?_) (fun c_5 => ?_)
  · refine g_iconst C (-1) dX5_pride_36 (by decide) ?_
    exact g_iret C (m_s v) hr dX5_pride_37 (Nat.le_of_ble_eq_true rfl) (Nat.le_of_ble_eq_true rfl) rfl (by unfold R_pride S_pride; (repeat' split) <;> first | rfl | exact ⟨rfl, rfl⟩ | (rw [ec]; done) | (rw [ec]; exact ⟨rfl, rfl⟩) | (rw [ec]; rfl) | (exfalso; simp only [lg_lt0, lg_gt0, w_le, w_lt, Int32.lt_iff_toInt_lt, Int32.le_iff_toInt_le, ← Int32.toInt_inj, tI_0, tI_1, tI_2, tI_3, tI_4, tI_5, tI_6, tI_7, tI_8, tI_9, tI_10, tI_13, tI_19, tI_20, tI_30, tI_32, tI_40, tI_48, tI_57, tI_59, tI_60, tI_97, tI_99, tI_100, tI_122, tI_200, tI_m1, tI_m2, tI_m3, tI_39, not_and, not_or] at * <;> omega))
  · refine g_iloadn C dX5_pride_8 2 rfl rfl ?_
    refine g_i2l C dX5_pride_9 ?_
    refine g_lconst C 0 dX5_pride_10 (by decide) ?_
    refine g_ldc2 C (99) dX5_pride_11 w_0 ?_
    refine g_call0i C (rd_S C (k_isIn32 l D q tt (y) 0 (99) 0 (99) (by first | rfl | decide) (by first | rfl | decide)) gX5_pride_X5_isIn rfl rfl rfl 3 ok_X5_isIn (rest := []) rfl rfl (Nat.le_of_ble_eq_true rfl) dX5_pride_14 ⟨(Nat.le_of_ble_eq_true rfl), (Nat.le_of_ble_eq_true rfl)⟩ ⟨(Nat.le_of_ble_eq_true rfl), (Nat.le_of_ble_eq_true rfl)⟩) (fun _ => rfl) (fun r_14 _ h_14 => ?_)
    obtain rfl := h_14
    refine g_ifeqE C 36 dX5_pride_17 rfl rfl (fun c_17 => ?_) (fun c_17 => ?_)
    · refine g_iconst C (-1) dX5_pride_36 (by decide) ?_
      exact g_iret C (m_s v) hr dX5_pride_37 (Nat.le_of_ble_eq_true rfl) (Nat.le_of_ble_eq_true rfl) rfl (by unfold R_pride S_pride; (repeat' split) <;> first | rfl | exact ⟨rfl, rfl⟩ | (rw [ec]; done) | (rw [ec]; exact ⟨rfl, rfl⟩) | (rw [ec]; rfl) | (exfalso; simp only [lg_lt0, lg_gt0, w_le, w_lt, Int32.lt_iff_toInt_lt, Int32.le_iff_toInt_le, ← Int32.toInt_inj, tI_0, tI_1, tI_2, tI_3, tI_4, tI_5, tI_6, tI_7, tI_8, tI_9, tI_10, tI_13, tI_19, tI_20, tI_30, tI_32, tI_40, tI_48, tI_57, tI_59, tI_60, tI_97, tI_99, tI_100, tI_122, tI_200, tI_m1, tI_m2, tI_m3, tI_39, not_and, not_or] at * <;> omega))
    · obtain ⟨j, hj, ej, ec⟩ := ix_one hG c_5
      refine g_aloadn C dX5_pride_20 0 rfl rfl ?_
      refine g_bipush C 7 dX5_pride_21 (by decide) ?_
      refine g_iconst C 5 dX5_pride_23 (by decide) ?_
      refine g_iloadn C dX5_pride_24 1 rfl rfl ?_
      refine g_topci (nI j) (ej) ?_
      refine g_imul C dX5_pride_25 ?_
      refine g_iadd C dX5_pride_26 ?_
      refine g_iconst C 1 dX5_pride_27 (by decide) ?_
      refine g_iadd C dX5_pride_28 ?_
      refine g_topci (nI ((7 + (5 * j)) + 1)) ((ix_add (ix_add rfl (ix_mul rfl rfl)) rfl)) ?_
      refine g_iloadn C dX5_pride_29 2 rfl rfl ?_
      refine g_callAi C (rd_V C (k_X5_becomes l D q tt a v ((7 + (5 * j)) + 1) y (by first | assumption | omega)) gX5_pride_X5_becomes rfl rfl rfl 2 ok_X5_becomes rfl 0 rfl rfl (rest := []) rfl rfl (Nat.le_of_ble_eq_true rfl) dX5_pride_30 ⟨(Nat.le_of_ble_eq_true rfl), (Nat.le_of_ble_eq_true rfl)⟩ ⟨(Nat.le_of_ble_eq_true rfl), (Nat.le_of_ble_eq_true rfl)⟩) (fun r_30 _ h_30 => ?_)
      obtain rfl := h_30
      refine g_goto C 37 dX5_pride_33 rfl ?_
      exact g_iret C (upd (m_s v) ((7 + (5 * j)) + 1) y) hr dX5_pride_37 (Nat.le_of_ble_eq_true rfl) (Nat.le_of_ble_eq_true rfl) rfl (by unfold R_pride S_pride; (repeat' split) <;> first | rfl | exact ⟨rfl, rfl⟩ | (rw [ec]; done) | (rw [ec]; exact ⟨rfl, rfl⟩) | (rw [ec]; rfl) | (exfalso; simp only [lg_lt0, lg_gt0, w_le, w_lt, Int32.lt_iff_toInt_lt, Int32.le_iff_toInt_le, ← Int32.toInt_inj, tI_0, tI_1, tI_2, tI_3, tI_4, tI_5, tI_6, tI_7, tI_8, tI_9, tI_10, tI_13, tI_19, tI_20, tI_30, tI_32, tI_40, tI_48, tI_57, tI_59, tI_60, tI_97, tI_99, tI_100, tI_122, tI_200, tI_m1, tI_m2, tI_m3, tI_39, not_and, not_or] at * <;> omega))

set_option maxRecDepth 100000 in
set_option maxHeartbeats 4000000 in
theorem k_X5_clap (l : Launch) (D : va_G) (q : Nat → ClassId) (tt : Nat → Nat) (a : Nat → Nat) (v : MC) (N : Nat) (x : Int32) (y : Int32) (hG : Gd (m_s v) N) : MI l D q tt yX5_clap wsX5_clap ({ frames := 1, cells := 0, slots := 0, locals := 25 } : Room) [.ref (a 0), .int x, .int y] (mw q a v) (fun (r : Int32) (u : Nat → Int32) => r = R_clap (m_s v) x y ∧ u = S_clap (m_s v) x y) (fun u => (mw q a (u, (m_held v), (m_aside v), (m_before v), (m_untried v), (m_isHeld v), (m_tape v), (m_taped v), (m_token v), (m_from v), (m_to v), (m_value v), (m_isWrong v), (m_heard v), (m_isMoved v), (m_rows v), (m_rowN v), (m_sortOf v), (m_sizeOf v), (m_numbers v), (m_holdsWhat v), (m_holdsWhich v), (m_holdsMany v), (m_bodies v), (m_ran v), (m_actKind v), (m_actN v), (m_actA v), (m_isParted v)))) 0 0 := by
  refine MI.of RX5 [(0, .ref (a 0)), (1, .int x), (2, .int y)] (by decide) rfl rfl (Nat.le_of_ble_eq_true rfl) rfl ?_
  intro p e s m args below meth c A C hr hnm
  have h8 := hG.le
  refine g_aloadn C dX5_clap_0 0 rfl rfl ?_
  refine g_iloadn C dX5_clap_1 1 rfl rfl ?_
  refine g_callAi C (rd_V C (k_X5_isOne l D q tt a v x ) gX5_clap_X5_isOne rfl rfl rfl 1 ok_X5_isOne rfl 0 rfl rfl (rest := []) rfl rfl (Nat.le_of_ble_eq_true rfl) dX5_clap_2 ⟨(Nat.le_of_ble_eq_true rfl), (Nat.le_of_ble_eq_true rfl)⟩ ⟨(Nat.le_of_ble_eq_true rfl), (Nat.le_of_ble_eq_true rfl)⟩) (fun r_2 _ h_2 => ?_)
  obtain rfl := h_2
  refine g_ifeqE C 34 dX5_clap_5 rfl rfl (fun c_5 => ?_) (fun c_5 => ?_)
  · refine g_iconst C (-1) dX5_clap_34 (by decide) ?_
    exact g_iret C (m_s v) hr dX5_clap_35 (Nat.le_of_ble_eq_true rfl) (Nat.le_of_ble_eq_true rfl) rfl (by unfold R_clap S_clap; (repeat' split) <;> first | rfl | exact ⟨rfl, rfl⟩ | (rw [ec]; done) | (rw [ec]; exact ⟨rfl, rfl⟩) | (rw [ec]; rfl) | (exfalso; simp only [lg_lt0, lg_gt0, w_le, w_lt, Int32.lt_iff_toInt_lt, Int32.le_iff_toInt_le, ← Int32.toInt_inj, tI_0, tI_1, tI_2, tI_3, tI_4, tI_5, tI_6, tI_7, tI_8, tI_9, tI_10, tI_13, tI_19, tI_20, tI_30, tI_32, tI_40, tI_48, tI_57, tI_59, tI_60, tI_97, tI_99, tI_100, tI_122, tI_200, tI_m1, tI_m2, tI_m3, tI_39, not_and, not_or] at * <;> omega))
  · refine g_iloadn C dX5_clap_8 2 rfl rfl ?_
    refine g_i2l C dX5_clap_9 ?_
    refine g_lconst C 0 dX5_clap_10 (by decide) ?_
    refine g_lconst C 1 dX5_clap_11 (by decide) ?_
    refine g_call0i C (rd_S C (k_isIn32 l D q tt (y) 0 1 0 1 (by first | rfl | decide) (by first | rfl | decide)) gX5_clap_X5_isIn rfl rfl rfl 3 ok_X5_isIn (rest := []) rfl rfl (Nat.le_of_ble_eq_true rfl) dX5_clap_12 ⟨(Nat.le_of_ble_eq_true rfl), (Nat.le_of_ble_eq_true rfl)⟩ ⟨(Nat.le_of_ble_eq_true rfl), (Nat.le_of_ble_eq_true rfl)⟩) (fun _ => rfl) (fun r_12 _ h_12 => ?_)
    obtain rfl := h_12
    refine g_ifeqE C 34 dX5_clap_15 rfl rfl (fun c_15 => ?_) (fun c_15 => ?_)
    · refine g_iconst C (-1) dX5_clap_34 (by decide) ?_
      exact g_iret C (m_s v) hr dX5_clap_35 (Nat.le_of_ble_eq_true rfl) (Nat.le_of_ble_eq_true rfl) rfl (by unfold R_clap S_clap; (repeat' split) <;> first | rfl | exact ⟨rfl, rfl⟩ | (rw [ec]; done) | (rw [ec]; exact ⟨rfl, rfl⟩) | (rw [ec]; rfl) | (exfalso; simp only [lg_lt0, lg_gt0, w_le, w_lt, Int32.lt_iff_toInt_lt, Int32.le_iff_toInt_le, ← Int32.toInt_inj, tI_0, tI_1, tI_2, tI_3, tI_4, tI_5, tI_6, tI_7, tI_8, tI_9, tI_10, tI_13, tI_19, tI_20, tI_30, tI_32, tI_40, tI_48, tI_57, tI_59, tI_60, tI_97, tI_99, tI_100, tI_122, tI_200, tI_m1, tI_m2, tI_m3, tI_39, not_and, not_or] at * <;> omega))
    · obtain ⟨j, hj, ej, ec⟩ := ix_one hG c_5
      refine g_aloadn C dX5_clap_18 0 rfl rfl ?_
      refine g_bipush C 7 dX5_clap_19 (by decide) ?_
      refine g_iconst C 5 dX5_clap_21 (by decide) ?_
      refine g_iloadn C dX5_clap_22 1 rfl rfl ?_
      refine g_topci (nI j) (ej) ?_
      refine g_imul C dX5_clap_23 ?_
      refine g_iadd C dX5_clap_24 ?_
      refine g_iconst C 4 dX5_clap_25 (by decide) ?_
      refine g_iadd C dX5_clap_26 ?_
      refine g_topci (nI ((7 + (5 * j)) + 4)) ((ix_add (ix_add rfl (ix_mul rfl rfl)) rfl)) ?_
      refine g_iloadn C dX5_clap_27 2 rfl rfl ?_
      refine g_callAi C (rd_V C (k_X5_becomes l D q tt a v ((7 + (5 * j)) + 4) y (by first | assumption | omega)) gX5_clap_X5_becomes rfl rfl rfl 2 ok_X5_becomes rfl 0 rfl rfl (rest := []) rfl rfl (Nat.le_of_ble_eq_true rfl) dX5_clap_28 ⟨(Nat.le_of_ble_eq_true rfl), (Nat.le_of_ble_eq_true rfl)⟩ ⟨(Nat.le_of_ble_eq_true rfl), (Nat.le_of_ble_eq_true rfl)⟩) (fun r_28 _ h_28 => ?_)
      obtain rfl := h_28
      refine g_goto C 35 dX5_clap_31 rfl ?_
      exact g_iret C (upd (m_s v) ((7 + (5 * j)) + 4) y) hr dX5_clap_35 (Nat.le_of_ble_eq_true rfl) (Nat.le_of_ble_eq_true rfl) rfl (by unfold R_clap S_clap; (repeat' split) <;> first | rfl | exact ⟨rfl, rfl⟩ | (rw [ec]; done) | (rw [ec]; exact ⟨rfl, rfl⟩) | (rw [ec]; rfl) | (exfalso; simp only [lg_lt0, lg_gt0, w_le, w_lt, Int32.lt_iff_toInt_lt, Int32.le_iff_toInt_le, ← Int32.toInt_inj, tI_0, tI_1, tI_2, tI_3, tI_4, tI_5, tI_6, tI_7, tI_8, tI_9, tI_10, tI_13, tI_19, tI_20, tI_30, tI_32, tI_40, tI_48, tI_57, tI_59, tI_60, tI_97, tI_99, tI_100, tI_122, tI_200, tI_m1, tI_m2, tI_m3, tI_39, not_and, not_or] at * <;> omega))

set_option maxRecDepth 100000 in
set_option maxHeartbeats 4000000 in
theorem k_X5_move (l : Launch) (D : va_G) (q : Nat → ClassId) (tt : Nat → Nat) (a : Nat → Nat) (v : MC) (N : Nat) (x : Int32) (y : Int32) (hG : Gd (m_s v) N) : MI l D q tt yX5_move wsX5_move ({ frames := 1, cells := 0, slots := 0, locals := 23 } : Room) [.ref (a 0), .int x, .int y] (mw q a v) (fun (r : Int32) (u : Nat → Int32) => r = R_move (m_s v) x y ∧ u = S_move (m_s v) x y) (fun u => (mw q a (u, (m_held v), (m_aside v), (m_before v), (m_untried v), (m_isHeld v), (m_tape v), (m_taped v), (m_token v), (m_from v), (m_to v), (m_value v), (m_isWrong v), (m_heard v), (m_isMoved v), (m_rows v), (m_rowN v), (m_sortOf v), (m_sizeOf v), (m_numbers v), (m_holdsWhat v), (m_holdsWhich v), (m_holdsMany v), (m_bodies v), (m_ran v), (m_actKind v), (m_actN v), (m_actA v), (m_isParted v)))) 0 0 := by
  refine MI.of RX5 [(0, .ref (a 0)), (1, .int x), (2, .int y)] (by decide) rfl rfl (Nat.le_of_ble_eq_true rfl) rfl ?_
  intro p e s m args below meth c A C hr hnm
  have h8 := hG.le
  refine g_aloadn C dX5_move_0 0 rfl rfl ?_
  refine g_iloadn C dX5_move_1 1 rfl rfl ?_
  refine g_callAi C (rd_V C (k_X5_isOne l D q tt a v x ) gX5_move_X5_isOne rfl rfl rfl 1 ok_X5_isOne rfl 0 rfl rfl (rest := []) rfl rfl (Nat.le_of_ble_eq_true rfl) dX5_move_2 ⟨(Nat.le_of_ble_eq_true rfl), (Nat.le_of_ble_eq_true rfl)⟩ ⟨(Nat.le_of_ble_eq_true rfl), (Nat.le_of_ble_eq_true rfl)⟩) (fun r_2 _ h_2 => ?_)
  obtain rfl := h_2
  refine g_ifeqE C 31 dX5_move_5 rfl rfl (fun c_5 => ?_) (fun c_5 => ?_)
  · refine g_iconst C (-1) dX5_move_31 (by decide) ?_
    exact g_iret C (m_s v) hr dX5_move_32 (Nat.le_of_ble_eq_true rfl) (Nat.le_of_ble_eq_true rfl) rfl (by unfold R_move S_move; (repeat' split) <;> first | rfl | exact ⟨rfl, rfl⟩ | (rw [ec]; done) | (rw [ec]; exact ⟨rfl, rfl⟩) | (rw [ec]; rfl) | (exfalso; simp only [lg_lt0, lg_gt0, w_le, w_lt, Int32.lt_iff_toInt_lt, Int32.le_iff_toInt_le, ← Int32.toInt_inj, tI_0, tI_1, tI_2, tI_3, tI_4, tI_5, tI_6, tI_7, tI_8, tI_9, tI_10, tI_13, tI_19, tI_20, tI_30, tI_32, tI_40, tI_48, tI_57, tI_59, tI_60, tI_97, tI_99, tI_100, tI_122, tI_200, tI_m1, tI_m2, tI_m3, tI_39, not_and, not_or] at * <;> omega))
  · refine g_iloadn C dX5_move_8 2 rfl rfl ?_
    refine g_call0i C (rd_S C (k_X5_isRoom l D q tt y ) gX5_move_X5_isRoom rfl rfl rfl 1 ok_X5_isRoom (rest := []) rfl rfl (Nat.le_of_ble_eq_true rfl) dX5_move_9 ⟨(Nat.le_of_ble_eq_true rfl), (Nat.le_of_ble_eq_true rfl)⟩ ⟨(Nat.le_of_ble_eq_true rfl), (Nat.le_of_ble_eq_true rfl)⟩) (fun _ => rfl) (fun r_9 _ h_9 => ?_)
    obtain rfl := h_9
    refine g_ifeqE C 31 dX5_move_12 rfl rfl (fun c_12 => ?_) (fun c_12 => ?_)
    · refine g_iconst C (-1) dX5_move_31 (by decide) ?_
      exact g_iret C (m_s v) hr dX5_move_32 (Nat.le_of_ble_eq_true rfl) (Nat.le_of_ble_eq_true rfl) rfl (by unfold R_move S_move; (repeat' split) <;> first | rfl | exact ⟨rfl, rfl⟩ | (rw [ec]; done) | (rw [ec]; exact ⟨rfl, rfl⟩) | (rw [ec]; rfl) | (exfalso; simp only [lg_lt0, lg_gt0, w_le, w_lt, Int32.lt_iff_toInt_lt, Int32.le_iff_toInt_le, ← Int32.toInt_inj, tI_0, tI_1, tI_2, tI_3, tI_4, tI_5, tI_6, tI_7, tI_8, tI_9, tI_10, tI_13, tI_19, tI_20, tI_30, tI_32, tI_40, tI_48, tI_57, tI_59, tI_60, tI_97, tI_99, tI_100, tI_122, tI_200, tI_m1, tI_m2, tI_m3, tI_39, not_and, not_or] at * <;> omega))
    · obtain ⟨j, hj, ej, ec⟩ := ix_one hG c_5
      refine g_aloadn C dX5_move_15 0 rfl rfl ?_
      refine g_bipush C 7 dX5_move_16 (by decide) ?_
      refine g_iconst C 5 dX5_move_18 (by decide) ?_
      refine g_iloadn C dX5_move_19 1 rfl rfl ?_
      refine g_topci (nI j) (ej) ?_
      refine g_imul C dX5_move_20 ?_
      refine g_iadd C dX5_move_21 ?_
      refine g_iconst C 3 dX5_move_22 (by decide) ?_
      refine g_iadd C dX5_move_23 ?_
      refine g_topci (nI ((7 + (5 * j)) + 3)) ((ix_add (ix_add rfl (ix_mul rfl rfl)) rfl)) ?_
      refine g_iloadn C dX5_move_24 2 rfl rfl ?_
      refine g_callAi C (rd_V C (k_X5_becomes l D q tt a v ((7 + (5 * j)) + 3) y (by first | assumption | omega)) gX5_move_X5_becomes rfl rfl rfl 2 ok_X5_becomes rfl 0 rfl rfl (rest := []) rfl rfl (Nat.le_of_ble_eq_true rfl) dX5_move_25 ⟨(Nat.le_of_ble_eq_true rfl), (Nat.le_of_ble_eq_true rfl)⟩ ⟨(Nat.le_of_ble_eq_true rfl), (Nat.le_of_ble_eq_true rfl)⟩) (fun r_25 _ h_25 => ?_)
      obtain rfl := h_25
      refine g_goto C 32 dX5_move_28 rfl ?_
      exact g_iret C (upd (m_s v) ((7 + (5 * j)) + 3) y) hr dX5_move_32 (Nat.le_of_ble_eq_true rfl) (Nat.le_of_ble_eq_true rfl) rfl (by unfold R_move S_move; (repeat' split) <;> first | rfl | exact ⟨rfl, rfl⟩ | (rw [ec]; done) | (rw [ec]; exact ⟨rfl, rfl⟩) | (rw [ec]; rfl) | (exfalso; simp only [lg_lt0, lg_gt0, w_le, w_lt, Int32.lt_iff_toInt_lt, Int32.le_iff_toInt_le, ← Int32.toInt_inj, tI_0, tI_1, tI_2, tI_3, tI_4, tI_5, tI_6, tI_7, tI_8, tI_9, tI_10, tI_13, tI_19, tI_20, tI_30, tI_32, tI_40, tI_48, tI_57, tI_59, tI_60, tI_97, tI_99, tI_100, tI_122, tI_200, tI_m1, tI_m2, tI_m3, tI_39, not_and, not_or] at * <;> omega))

set_option maxRecDepth 100000 in
set_option maxHeartbeats 4000000 in
theorem k_X5_thoseIn (l : Launch) (D : va_G) (q : Nat → ClassId) (tt : Nat → Nat) (a : Nat → Nat) (v : MC) (N : Nat) (x : Int32) (hG : Gd (m_s v) N) : MI l D q tt yX5_thoseIn wsX5_thoseIn ({ frames := 1, cells := 0, slots := 0, locals := 22 } : Room) [.ref (a 0), .int x] (mw q a v) (fun (r : Int32) (u : Unit) => r = (orI (thT (m_s v) x) N)) (fun (_ : Unit) => (mw q a v)) 0 0 := by
  refine MI.of RX5 [(0, .ref (a 0)), (1, .int x)] (by decide) rfl rfl (Nat.le_of_ble_eq_true rfl) rfl ?_
  intro p e s m args below meth c A C hr hnm
  have w_0 : ∀ w ∈ u_ws RX5 TX5 29, w ∈ wsX5_thoseIn := by decide +kernel
  have w_1 : Cond.fieldLink RX5 7 (TX5 0).1 (TX5 0).2.1 (TX5 0).2.2.1 ∈ wsX5_thoseIn := by decide +kernel
  have h8 := hG.le
  refine g_iconst C 0 dX5_thoseIn_0 (by decide) ?_
  refine g_istoren C [(2, .int 0), (0, .ref (a 0)), (1, .int x)] dX5_thoseIn_1 rfl (by decide) rfl ?_
  refine g_iconst C 0 dX5_thoseIn_2 (by decide) ?_
  refine g_istoren C [(3, .int 0), (2, .int 0), (0, .ref (a 0)), (1, .int x)] dX5_thoseIn_3 rfl (by decide) rfl ?_
  have J_4 : ∀ (fu : Nat) (i : Nat), N - i < fu → (i ≤ N) → G p l e ({ frames := 1, cells := 0, slots := 0, locals := 22 } : Room) s m args below meth c 4 D A (MQ below (va_Qi (fun (r : Int32) (u : Unit) => r = (orI (thT (m_s v) x) N)) (Bw D A (fun (_ : Unit) => (mw q a v))) A) args s 0 0 A) 4 [(0, .ref (a 0)), (1, .int x), (2, .int (orI (thT (m_s v) x) i)), (3, .int (nI i))] [] (mw q a v) 0 0 := by
    intro fu
    induction fu with
    | zero =>
      intro i hfu
      exact absurd hfu (Nat.not_lt_zero _)
    | succ fu ih =>
      intro i hfu hi
      refine g_iloadn C dX5_thoseIn_4 3 rfl rfl ?_
      refine g_aloadn C dX5_thoseIn_5 0 rfl rfl ?_
      refine g_get C fx5 w_0 0 0 (v := .ref (a 1)) rfl (by decide) w_1 rfl dX5_thoseIn_6 ?_
      refine g_iconst C 0 dX5_thoseIn_9 (by decide) ?_
      refine g_iald C 1 (0) (f := (m_s v)) rfl rfl (by omega) (by decide) dX5_thoseIn_10 ?_
      refine g_topci (nI N) (hG.n) ?_
      refine g_icmpN_ge C 40 (i) (N) dX5_thoseIn_11 rfl (by omega) (by omega) (fun c_11 => ?_) (fun c_11 => ?_)
      · refine g_iloadn C dX5_thoseIn_40 2 rfl rfl ?_
        exact g_iret C () hr dX5_thoseIn_41 (Nat.le_of_ble_eq_true rfl) (Nat.le_of_ble_eq_true rfl) rfl (by have e : i = N := (by omega); rw [e])
      · refine g_iloadn C dX5_thoseIn_14 2 rfl rfl ?_
        refine g_aloadn C dX5_thoseIn_15 0 rfl rfl ?_
        refine g_iloadn C dX5_thoseIn_16 3 rfl rfl ?_
        refine g_iconst C 3 dX5_thoseIn_17 (by decide) ?_
        refine g_callAi C (rd_V C (k_X5_its l D q tt a v i 3 (by first | assumption | omega) (by first | assumption | omega)) gX5_thoseIn_X5_its rfl rfl rfl 2 ok_X5_its rfl 0 rfl rfl (rest := [.int (orI (thT (m_s v) x) i)]) rfl rfl (Nat.le_of_ble_eq_true rfl) dX5_thoseIn_18 ⟨(Nat.le_of_ble_eq_true rfl), (Nat.le_of_ble_eq_true rfl)⟩ ⟨(Nat.le_of_ble_eq_true rfl), (Nat.le_of_ble_eq_true rfl)⟩) (fun r_18 _ h_18 => ?_)
        obtain rfl := h_18
        refine g_iloadn C dX5_thoseIn_21 1 rfl rfl ?_
        refine g_icmp_ne C 31 dX5_thoseIn_22 rfl (fun c_22 => ?_) (fun c_22 => ?_)
        · refine g_iconst C 0 dX5_thoseIn_31 (by decide) ?_
          refine g_ior C dX5_thoseIn_32 ?_
          refine g_topci (orI (thT (m_s v) x) (i + 1)) (by show _ = orI _ i ||| thT _ _ i; unfold thT sR; rw [if_neg c_22]) ?_
          refine g_istoren C [(2, .int (orI (thT (m_s v) x) (i + 1))), (0, .ref (a 0)), (1, .int x), (3, .int (nI i))] dX5_thoseIn_33 rfl (by decide) rfl ?_
          refine g_iinc C (nI (i + 1)) [(3, .int (nI (i + 1))), (2, .int (orI (thT (m_s v) x) (i + 1))), (0, .ref (a 0)), (1, .int x)] dX5_thoseIn_34 3 rfl (nI_add i 1) (by decide) rfl ?_
          refine g_goto C 4 dX5_thoseIn_37 rfl ?_
          refine g_sub [2, 3, 1, 0] (lv' := [(0, .ref (a 0)), (1, .int x), (2, .int (orI (thT (m_s v) x) (i + 1))), (3, .int (nI (i + 1)))]) rfl ?_
          exact ih ((i + 1)) (by omega) (by first | assumption | omega)
        · refine g_iconst C 1 dX5_thoseIn_25 (by decide) ?_
          refine g_iloadn C dX5_thoseIn_26 3 rfl rfl ?_
          refine g_ishl C dX5_thoseIn_27 ?_
          refine g_goto C 32 dX5_thoseIn_28 rfl ?_
          refine g_ior C dX5_thoseIn_32 ?_
          refine g_topci (orI (thT (m_s v) x) (i + 1)) (by show _ = orI _ i ||| thT _ _ i; unfold thT sR; rw [if_pos c_22]) ?_
          refine g_istoren C [(2, .int (orI (thT (m_s v) x) (i + 1))), (0, .ref (a 0)), (1, .int x), (3, .int (nI i))] dX5_thoseIn_33 rfl (by decide) rfl ?_
          refine g_iinc C (nI (i + 1)) [(3, .int (nI (i + 1))), (2, .int (orI (thT (m_s v) x) (i + 1))), (0, .ref (a 0)), (1, .int x)] dX5_thoseIn_34 3 rfl (nI_add i 1) (by decide) rfl ?_
          refine g_goto C 4 dX5_thoseIn_37 rfl ?_
          refine g_sub [2, 3, 1, 0] (lv' := [(0, .ref (a 0)), (1, .int x), (2, .int (orI (thT (m_s v) x) (i + 1))), (3, .int (nI (i + 1)))]) rfl ?_
          exact ih ((i + 1)) (by omega) (by first | assumption | omega)
  refine g_sub [2, 3, 1, 0] (lv' := [(0, .ref (a 0)), (1, .int x), (2, .int 0), (3, .int 0)]) rfl ?_
  exact J_4 _ (0) (Nat.lt_succ_self _) (by first | assumption | omega)

set_option maxRecDepth 100000 in
set_option maxHeartbeats 4000000 in
theorem k_X5_room (l : Launch) (D : va_G) (q : Nat → ClassId) (tt : Nat → Nat) (a : Nat → Nat) (v : MC) (N : Nat) (x : Int32) (y : Int32) (hG : Gd (m_s v) N) : MI l D q tt yX5_room wsX5_room ({ frames := 2, cells := 0, slots := 0, locals := 45 } : Room) [.ref (a 0), .int x, .int y] (mw q a v) (fun (r : Int32) (u : Unit) => r = R_room (m_s v) N x y) (fun (_ : Unit) => (mw q a v)) 0 0 := by
  refine MI.of RX5 [(0, .ref (a 0)), (1, .int x), (2, .int y)] (by decide) rfl rfl (Nat.le_of_ble_eq_true rfl) rfl ?_
  intro p e s m args below meth c A C hr hnm
  have h8 := hG.le
  refine g_iloadn C dX5_room_0 1 rfl rfl ?_
  refine g_call0i C (rd_S C (k_X5_isRoom l D q tt x ) gX5_room_X5_isRoom rfl rfl rfl 1 ok_X5_isRoom (rest := []) rfl rfl (Nat.le_of_ble_eq_true rfl) dX5_room_1 ⟨(Nat.le_of_ble_eq_true rfl), (Nat.le_of_ble_eq_true rfl)⟩ ⟨(Nat.le_of_ble_eq_true rfl), (Nat.le_of_ble_eq_true rfl)⟩) (fun _ => rfl) (fun r_1 _ h_1 => ?_)
  obtain rfl := h_1
  refine g_ifeqE C 17 dX5_room_4 rfl rfl (fun c_4 => ?_) (fun c_4 => ?_)
  · refine g_iconst C (-1) dX5_room_17 (by decide) ?_
    exact g_iret C () hr dX5_room_18 (Nat.le_of_ble_eq_true rfl) (Nat.le_of_ble_eq_true rfl) rfl (by unfold R_room; (repeat' split) <;> first | rfl | exact ⟨rfl, rfl⟩ | (exfalso; simp only [lg_lt0, lg_gt0, w_le, w_lt, Int32.lt_iff_toInt_lt, Int32.le_iff_toInt_le, ← Int32.toInt_inj, tI_0, tI_1, tI_2, tI_3, tI_4, tI_5, tI_6, tI_7, tI_8, tI_9, tI_10, tI_13, tI_19, tI_20, tI_30, tI_32, tI_40, tI_48, tI_57, tI_59, tI_60, tI_97, tI_99, tI_100, tI_122, tI_200, tI_m1, tI_m2, tI_m3, tI_39, not_and, not_or] at * <;> omega))
  · refine g_iloadn C dX5_room_7 2 rfl rfl ?_
    refine g_i2l C dX5_room_8 ?_
    refine g_lconst C 0 dX5_room_9 (by decide) ?_
    refine g_lconst C 1 dX5_room_10 (by decide) ?_
    refine g_call0i C (rd_S C (k_isIn32 l D q tt (y) 0 1 0 1 (by first | rfl | decide) (by first | rfl | decide)) gX5_room_X5_isIn rfl rfl rfl 3 ok_X5_isIn (rest := []) rfl rfl (Nat.le_of_ble_eq_true rfl) dX5_room_11 ⟨(Nat.le_of_ble_eq_true rfl), (Nat.le_of_ble_eq_true rfl)⟩ ⟨(Nat.le_of_ble_eq_true rfl), (Nat.le_of_ble_eq_true rfl)⟩) (fun _ => rfl) (fun r_11 _ h_11 => ?_)
    obtain rfl := h_11
    refine g_ifneE C 19 dX5_room_14 rfl rfl (fun c_14 => ?_) (fun c_14 => ?_)
    · refine g_iloadn C dX5_room_19 2 rfl rfl ?_
      refine g_if_ne C 31 dX5_room_20 rfl (fun c_20 => ?_) (fun c_20 => ?_)
      · refine g_aloadn C dX5_room_31 0 rfl rfl ?_
        refine g_iloadn C dX5_room_32 1 rfl rfl ?_
        refine g_callAi C (rd_V C (k_X5_thoseIn l D q tt a v N x (by first | assumption | omega)) gX5_room_X5_thoseIn rfl rfl rfl 1 ok_X5_thoseIn rfl 0 rfl rfl (rest := []) rfl rfl (Nat.le_of_ble_eq_true rfl) dX5_room_33 ⟨(Nat.le_of_ble_eq_true rfl), (Nat.le_of_ble_eq_true rfl)⟩ ⟨(Nat.le_of_ble_eq_true rfl), (Nat.le_of_ble_eq_true rfl)⟩) (fun r_33 _ h_33 => ?_)
        obtain rfl := h_33
        refine g_aloadn C dX5_room_36 0 rfl rfl ?_
        refine g_callAi C (rd_V C (k_X5_clappers l D q tt a v N (by first | assumption | omega)) gX5_room_X5_clappers rfl rfl rfl 0 ok_X5_clappers rfl 0 rfl rfl (rest := [.int (orI (thT (m_s v) x) N)]) rfl rfl (Nat.le_of_ble_eq_true rfl) dX5_room_37 ⟨(Nat.le_of_ble_eq_true rfl), (Nat.le_of_ble_eq_true rfl)⟩ ⟨(Nat.le_of_ble_eq_true rfl), (Nat.le_of_ble_eq_true rfl)⟩) (fun r_37 _ h_37 => ?_)
        obtain rfl := h_37
        refine g_iand C dX5_room_40 ?_
        exact g_iret C () hr dX5_room_41 (Nat.le_of_ble_eq_true rfl) (Nat.le_of_ble_eq_true rfl) rfl (by unfold R_room; (repeat' split) <;> first | rfl | exact ⟨rfl, rfl⟩ | (exfalso; simp only [lg_lt0, lg_gt0, w_le, w_lt, Int32.lt_iff_toInt_lt, Int32.le_iff_toInt_le, ← Int32.toInt_inj, tI_0, tI_1, tI_2, tI_3, tI_4, tI_5, tI_6, tI_7, tI_8, tI_9, tI_10, tI_13, tI_19, tI_20, tI_30, tI_32, tI_40, tI_48, tI_57, tI_59, tI_60, tI_97, tI_99, tI_100, tI_122, tI_200, tI_m1, tI_m2, tI_m3, tI_39, not_and, not_or] at * <;> omega))
      · refine g_aloadn C dX5_room_23 0 rfl rfl ?_
        refine g_iloadn C dX5_room_24 1 rfl rfl ?_
        refine g_callAi C (rd_V C (k_X5_thoseIn l D q tt a v N x (by first | assumption | omega)) gX5_room_X5_thoseIn rfl rfl rfl 1 ok_X5_thoseIn rfl 0 rfl rfl (rest := []) rfl rfl (Nat.le_of_ble_eq_true rfl) dX5_room_25 ⟨(Nat.le_of_ble_eq_true rfl), (Nat.le_of_ble_eq_true rfl)⟩ ⟨(Nat.le_of_ble_eq_true rfl), (Nat.le_of_ble_eq_true rfl)⟩) (fun r_25 _ h_25 => ?_)
        obtain rfl := h_25
        refine g_goto C 41 dX5_room_28 rfl ?_
        exact g_iret C () hr dX5_room_41 (Nat.le_of_ble_eq_true rfl) (Nat.le_of_ble_eq_true rfl) rfl (by unfold R_room; (repeat' split) <;> first | rfl | exact ⟨rfl, rfl⟩ | (exfalso; simp only [lg_lt0, lg_gt0, w_le, w_lt, Int32.lt_iff_toInt_lt, Int32.le_iff_toInt_le, ← Int32.toInt_inj, tI_0, tI_1, tI_2, tI_3, tI_4, tI_5, tI_6, tI_7, tI_8, tI_9, tI_10, tI_13, tI_19, tI_20, tI_30, tI_32, tI_40, tI_48, tI_57, tI_59, tI_60, tI_97, tI_99, tI_100, tI_122, tI_200, tI_m1, tI_m2, tI_m3, tI_39, not_and, not_or] at * <;> omega))
    · refine g_iconst C (-1) dX5_room_17 (by decide) ?_
      exact g_iret C () hr dX5_room_18 (Nat.le_of_ble_eq_true rfl) (Nat.le_of_ble_eq_true rfl) rfl (by unfold R_room; (repeat' split) <;> first | rfl | exact ⟨rfl, rfl⟩ | (exfalso; simp only [lg_lt0, lg_gt0, w_le, w_lt, Int32.lt_iff_toInt_lt, Int32.le_iff_toInt_le, ← Int32.toInt_inj, tI_0, tI_1, tI_2, tI_3, tI_4, tI_5, tI_6, tI_7, tI_8, tI_9, tI_10, tI_13, tI_19, tI_20, tI_30, tI_32, tI_40, tI_48, tI_57, tI_59, tI_60, tI_97, tI_99, tI_100, tI_122, tI_200, tI_m1, tI_m2, tI_m3, tI_39, not_and, not_or] at * <;> omega))

set_option maxRecDepth 100000 in
set_option maxHeartbeats 4000000 in
theorem k_X5_minutes (l : Launch) (D : va_G) (q : Nat → ClassId) (tt : Nat → Nat) (a : Nat → Nat) (v : MC) (N : Nat) (x : Int32) (hG : Gd (m_s v) N) : MI l D q tt yX5_minutes wsX5_minutes ({ frames := 6, cells := 0, slots := 0, locals := 134 } : Room) [.ref (a 0), .int x] (mw q a v) (fun (r : Int32) (u : (Nat → Int32) × (Nat → Int32) × (Nat → Int32)) => r = R_minutes (m_s v) N x ∧ u.1 = S_minutes (m_s v) N x) (fun u => (mw q a (u.1, (m_held v), (m_aside v), (m_before v), (m_untried v), (m_isHeld v), (m_tape v), (m_taped v), (m_token v), (m_from v), (m_to v), (m_value v), (m_isWrong v), u.2.1, u.2.2, (m_rows v), (m_rowN v), (m_sortOf v), (m_sizeOf v), (m_numbers v), (m_holdsWhat v), (m_holdsWhich v), (m_holdsMany v), (m_bodies v), (m_ran v), (m_actKind v), (m_actN v), (m_actA v), (m_isParted v)))) 0 0 := by
  refine MI.of RX5 [(0, .ref (a 0)), (1, .int x)] (by decide) rfl rfl (Nat.le_of_ble_eq_true rfl) rfl ?_
  intro p e s m args below meth c A C hr hnm
  have w_0 : Cond.constantLong RX5 201 (60) ∈ wsX5_minutes := by decide +kernel
  have h8 := hG.le
  refine g_iloadn C dX5_minutes_0 1 rfl rfl ?_
  refine g_i2l C dX5_minutes_1 ?_
  refine g_lconst C 1 dX5_minutes_2 (by decide) ?_
  refine g_ldc2 C (60) dX5_minutes_3 w_0 ?_
  refine g_call0i C (rd_S C (k_isIn32 l D q tt (x) 1 (60) 1 (60) (by first | rfl | decide) (by first | rfl | decide)) gX5_minutes_X5_isIn rfl rfl rfl 3 ok_X5_isIn (rest := []) rfl rfl (Nat.le_of_ble_eq_true rfl) dX5_minutes_6 ⟨(Nat.le_of_ble_eq_true rfl), (Nat.le_of_ble_eq_true rfl)⟩ ⟨(Nat.le_of_ble_eq_true rfl), (Nat.le_of_ble_eq_true rfl)⟩) (fun _ => rfl) (fun r_6 _ h_6 => ?_)
  obtain rfl := h_6
  refine g_ifneE C 14 dX5_minutes_9 rfl rfl (fun c_9 => ?_) (fun c_9 => ?_)
  · obtain ⟨j, hj, ej, ec⟩ := ix_le (n := 60) (by omega) ⟨Int32.le_trans (by decide) c_9.1, c_9.2⟩
    refine g_aloadn C dX5_minutes_14 0 rfl rfl ?_
    refine g_iloadn C dX5_minutes_15 1 rfl rfl ?_
    refine g_topci (nI j) (ej) ?_
    refine g_callAv C (rd_V C (k_X5_goes l D q tt a v N j (by first | assumption | omega) (by first | assumption | omega)) gX5_minutes_X5_goes rfl rfl rfl 1 ok_X5_goes rfl 0 rfl rfl (rest := []) rfl rfl (Nat.le_of_ble_eq_true rfl) dX5_minutes_16 ⟨(Nat.le_of_ble_eq_true rfl), (Nat.le_of_ble_eq_true rfl)⟩ ⟨(Nat.le_of_ble_eq_true rfl), (Nat.le_of_ble_eq_true rfl)⟩) (fun u_16 h_16 => ?_)
    refine g_aloadn C dX5_minutes_19 0 rfl rfl ?_
    refine g_callAi C (rd_V C (k_X5_clappers l D q tt a ((gosS (m_s v) N j), (m_held v), (m_aside v), (m_before v), (m_untried v), (m_isHeld v), (m_tape v), (m_taped v), (m_token v), (m_from v), (m_to v), (m_value v), (m_isWrong v), u_16.1, u_16.2, (m_rows v), (m_rowN v), (m_sortOf v), (m_sizeOf v), (m_numbers v), (m_holdsWhat v), (m_holdsWhich v), (m_holdsMany v), (m_bodies v), (m_ran v), (m_actKind v), (m_actN v), (m_actA v), (m_isParted v)) N (hG.gos j)) gX5_minutes_X5_clappers rfl rfl rfl 0 ok_X5_clappers rfl 0 rfl rfl (rest := []) rfl rfl (Nat.le_of_ble_eq_true rfl) dX5_minutes_20 ⟨(Nat.le_of_ble_eq_true rfl), (Nat.le_of_ble_eq_true rfl)⟩ ⟨(Nat.le_of_ble_eq_true rfl), (Nat.le_of_ble_eq_true rfl)⟩) (fun r_20 _ h_20 => ?_)
    obtain rfl := h_20
    refine g_topci (clS (gosS (m_s v) N j) N) rfl ?_
    refine g_call0i C (rd_S C (k_X5_size l D q tt _ (clN_256 h8)) gX5_minutes_X5_size rfl rfl rfl 1 ok_X5_size (rest := []) rfl rfl (Nat.le_of_ble_eq_true rfl) dX5_minutes_23 ⟨(Nat.le_of_ble_eq_true rfl), (Nat.le_of_ble_eq_true rfl)⟩ ⟨(Nat.le_of_ble_eq_true rfl), (Nat.le_of_ble_eq_true rfl)⟩) (fun _ => rfl) (fun r_23 _ h_23 => ?_)
    obtain rfl := h_23
    exact g_iret C ((gosS (m_s v) N j), u_16.1, u_16.2) hr dX5_minutes_26 (Nat.le_of_ble_eq_true rfl) (Nat.le_of_ble_eq_true rfl) rfl (by unfold R_minutes S_minutes; (repeat' split) <;> first | exact ⟨rfl, rfl⟩ | (rw [ec]; exact ⟨rfl, rfl⟩) | (exfalso; simp only [lg_lt0, lg_gt0, w_le, w_lt, Int32.lt_iff_toInt_lt, Int32.le_iff_toInt_le, ← Int32.toInt_inj, tI_0, tI_1, tI_2, tI_3, tI_4, tI_5, tI_6, tI_7, tI_8, tI_9, tI_10, tI_13, tI_19, tI_20, tI_30, tI_32, tI_40, tI_48, tI_57, tI_59, tI_60, tI_97, tI_99, tI_100, tI_122, tI_200, tI_m1, tI_m2, tI_m3, tI_39, not_and, not_or] at * <;> omega))
  · refine g_iconst C (-1) dX5_minutes_12 (by decide) ?_
    exact g_iret C ((m_s v), (m_heard v), (m_isMoved v)) hr dX5_minutes_13 (Nat.le_of_ble_eq_true rfl) (Nat.le_of_ble_eq_true rfl) rfl (by unfold R_minutes S_minutes; (repeat' split) <;> first | exact ⟨rfl, rfl⟩ | (rw [ec]; exact ⟨rfl, rfl⟩) | (exfalso; simp only [lg_lt0, lg_gt0, w_le, w_lt, Int32.lt_iff_toInt_lt, Int32.le_iff_toInt_le, ← Int32.toInt_inj, tI_0, tI_1, tI_2, tI_3, tI_4, tI_5, tI_6, tI_7, tI_8, tI_9, tI_10, tI_13, tI_19, tI_20, tI_30, tI_32, tI_40, tI_48, tI_57, tI_59, tI_60, tI_97, tI_99, tI_100, tI_122, tI_200, tI_m1, tI_m2, tI_m3, tI_39, not_and, not_or] at * <;> omega))

set_option maxRecDepth 100000 in
set_option maxHeartbeats 4000000 in
theorem k_X5_seed (l : Launch) (D : va_G) (q : Nat → ClassId) (tt : Nat → Nat) (a : Nat → Nat) (v : MC) (x : Int32)  : MI l D q tt yX5_seed wsX5_seed ({ frames := 1, cells := 0, slots := 0, locals := 23 } : Room) [.ref (a 0), .int x] (mw q a v) (fun (r : Int32) (u : Unit) => r = ((m_s v) 2)) (fun (_ : Unit) => (mw q a ((upd (m_s v) 2 x), (m_held v), (m_aside v), (m_before v), (m_untried v), (m_isHeld v), (m_tape v), (m_taped v), (m_token v), (m_from v), (m_to v), (m_value v), (m_isWrong v), (m_heard v), (m_isMoved v), (m_rows v), (m_rowN v), (m_sortOf v), (m_sizeOf v), (m_numbers v), (m_holdsWhat v), (m_holdsWhich v), (m_holdsMany v), (m_bodies v), (m_ran v), (m_actKind v), (m_actN v), (m_actA v), (m_isParted v)))) 0 0 := by
  refine MI.of RX5 [(0, .ref (a 0)), (1, .int x)] (by decide) rfl rfl (Nat.le_of_ble_eq_true rfl) rfl ?_
  intro p e s m args below meth c A C hr hnm
  refine g_aloadn C dX5_seed_0 0 rfl rfl ?_
  refine g_iconst C 2 dX5_seed_1 (by decide) ?_
  refine g_iloadn C dX5_seed_2 1 rfl rfl ?_
  refine g_callAi C (rd_V C (k_X5_becomes l D q tt a v 2 x (by first | assumption | omega)) gX5_seed_X5_becomes rfl rfl rfl 2 ok_X5_becomes rfl 0 rfl rfl (rest := []) rfl rfl (Nat.le_of_ble_eq_true rfl) dX5_seed_3 ⟨(Nat.le_of_ble_eq_true rfl), (Nat.le_of_ble_eq_true rfl)⟩ ⟨(Nat.le_of_ble_eq_true rfl), (Nat.le_of_ble_eq_true rfl)⟩) (fun r_3 _ h_3 => ?_)
  obtain rfl := h_3
  exact g_iret C () hr dX5_seed_6 (Nat.le_of_ble_eq_true rfl) (Nat.le_of_ble_eq_true rfl) rfl (rfl)

set_option maxRecDepth 100000 in
set_option maxHeartbeats 4000000 in
theorem k_X5_drawn (l : Launch) (D : va_G) (q : Nat → ClassId) (tt : Nat → Nat) (a : Nat → Nat) (v : MC)  : MI l D q tt yX5_drawn wsX5_drawn ({ frames := 0, cells := 0, slots := 0, locals := 0 } : Room) [.ref (a 0)] (mw q a v) (fun (r : Int32) (u : Unit) => r = (zrS (zsS ((m_s v) 2)))) (fun (_ : Unit) => (mw q a ((upd (m_s v) 2 (zsS ((m_s v) 2))), (m_held v), (m_aside v), (m_before v), (m_untried v), (m_isHeld v), (m_tape v), (m_taped v), (m_token v), (m_from v), (m_to v), (m_value v), (m_isWrong v), (m_heard v), (m_isMoved v), (m_rows v), (m_rowN v), (m_sortOf v), (m_sizeOf v), (m_numbers v), (m_holdsWhat v), (m_holdsWhich v), (m_holdsMany v), (m_bodies v), (m_ran v), (m_actKind v), (m_actN v), (m_actA v), (m_isParted v)))) 0 0 := by
  refine MI.of RX5 [(0, .ref (a 0))] (by decide) rfl rfl (Nat.le_of_ble_eq_true rfl) rfl ?_
  intro p e s m args below meth c A C hr hnm
  have w_0 : ∀ w ∈ u_ws RX5 TX5 29, w ∈ wsX5_drawn := by decide +kernel
  have w_1 : Cond.fieldLink RX5 7 (TX5 0).1 (TX5 0).2.1 (TX5 0).2.2.1 ∈ wsX5_drawn := by decide +kernel
  have w_2 : Cond.constant RX5 209 (1103515245) ∈ wsX5_drawn := by decide +kernel
  refine g_aloadn C dX5_drawn_0 0 rfl rfl ?_
  refine g_get C fx5 w_0 0 0 (v := .ref (a 1)) rfl (by decide) w_1 rfl dX5_drawn_1 ?_
  refine g_iconst C 2 dX5_drawn_4 (by decide) ?_
  refine g_aloadn C dX5_drawn_5 0 rfl rfl ?_
  refine g_get C fx5 w_0 0 0 (v := .ref (a 1)) rfl (by decide) w_1 rfl dX5_drawn_6 ?_
  refine g_iconst C 2 dX5_drawn_9 (by decide) ?_
  refine g_iald C 1 (2) (f := (m_s v)) rfl rfl (by omega) (by decide) dX5_drawn_10 ?_
  refine g_ldc C (1103515245) dX5_drawn_11 w_2 ?_
  refine g_imul C dX5_drawn_13 ?_
  refine g_sipush C 12345 dX5_drawn_14 (by decide) ?_
  refine g_iadd C dX5_drawn_17 ?_
  refine g_topci (zsS ((m_s v) 2)) ((zsS_e _).symm) ?_
  refine g_iast C 1 (2) (f := (m_s v)) rfl rfl (by omega) (by decide) dX5_drawn_18 (mw q a ((upd (m_s v) 2 (zsS ((m_s v) 2))), (m_held v), (m_aside v), (m_before v), (m_untried v), (m_isHeld v), (m_tape v), (m_taped v), (m_token v), (m_from v), (m_to v), (m_value v), (m_isWrong v), (m_heard v), (m_isMoved v), (m_rows v), (m_rowN v), (m_sortOf v), (m_sizeOf v), (m_numbers v), (m_holdsWhat v), (m_holdsWhich v), (m_holdsMany v), (m_bodies v), (m_ran v), (m_actKind v), (m_actN v), (m_actA v), (m_isParted v))) rfl ?_
  refine g_aloadn C dX5_drawn_19 0 rfl rfl ?_
  refine g_get C fx5 w_0 0 0 (v := .ref (a 1)) rfl (by decide) w_1 rfl dX5_drawn_20 ?_
  refine g_iconst C 2 dX5_drawn_23 (by decide) ?_
  refine g_iald C 1 (2) (f := (upd (m_s v) 2 (zsS ((m_s v) 2)))) rfl rfl (by omega) (by decide) dX5_drawn_24 ?_
  refine g_topci (zsS ((m_s v) 2)) (pk_us) ?_
  refine g_bipush C 16 dX5_drawn_25 (by decide) ?_
  refine g_iushr C dX5_drawn_27 ?_
  exact g_iret C () hr dX5_drawn_28 (Nat.le_of_ble_eq_true rfl) (Nat.le_of_ble_eq_true rfl) rfl (rfl)

