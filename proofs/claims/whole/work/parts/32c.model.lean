set_option maxRecDepth 100000 in
set_option maxHeartbeats 4000000 in
theorem k_X5_item (l : Launch) (D : va_G) (q : Nat → ClassId) (tt : Nat → Nat) (a : Nat → Nat) (v : MC) (x : Int32) (y : Int32) (z : Int32) (hT : ShG (m_sortOf v) (m_sizeOf v)) : MI l D q tt yX5_item wsX5_item ({ frames := 2, cells := 0, slots := 0, locals := 45 } : Room) [.ref (a 0), .int x, .int y, .int z] (mw q a v) (fun (r : Int32) (u : Unit) => r = R_item (m_sortOf v) (m_sizeOf v) (m_numbers v) x y z) (fun (_ : Unit) => (mw q a v)) 0 0 := by
  refine MI.of RX5 [(0, .ref (a 0)), (1, .int x), (2, .int y), (3, .int z)] (by decide) rfl rfl (Nat.le_of_ble_eq_true rfl) rfl ?_
  intro p e s m args below meth c A C hr hnm
  have w_0 : Cond.constantLong RX5 152 (3) ∈ wsX5_item := by decide +kernel
  have w_1 : ∀ w ∈ u_ws RX5 TX5 29, w ∈ wsX5_item := by decide +kernel
  have w_2 : Cond.fieldLink RX5 41 (TX5 18).1 (TX5 18).2.1 (TX5 18).2.2.1 ∈ wsX5_item := by decide +kernel
  have w_3 : Cond.fieldLink RX5 44 (TX5 19).1 (TX5 19).2.1 (TX5 19).2.2.1 ∈ wsX5_item := by decide +kernel
  refine g_iloadn C dX5_item_0 1 rfl rfl ?_
  refine g_call0i C (rd_S C (k_X5_isSheet l D q tt x ) gX5_item_X5_isSheet rfl rfl rfl 1 ok_X5_isSheet (rest := []) rfl rfl (Nat.le_of_ble_eq_true rfl) dX5_item_1 ⟨(Nat.le_of_ble_eq_true rfl), (Nat.le_of_ble_eq_true rfl)⟩ ⟨(Nat.le_of_ble_eq_true rfl), (Nat.le_of_ble_eq_true rfl)⟩) (fun _ => rfl) (fun r_1 _ h_1 => ?_)
  obtain rfl := h_1
  refine g_ifeqE C 19 dX5_item_4 rfl rfl (fun c_4 => ?_) (fun c_4 => ?_)
  · refine g_iconst C (-1) dX5_item_19 (by decide) ?_
    exact g_iret C () hr dX5_item_20 (Nat.le_of_ble_eq_true rfl) (Nat.le_of_ble_eq_true rfl) rfl (by have hn_ : ¬ ((0 ≤ x ∧ x ≤ 3) ∧ (0 ≤ y ∧ y ≤ 3)) := fun h => c_4 h.1; unfold R_item; rw [if_neg hn_])
  · refine g_iloadn C dX5_item_7 2 rfl rfl ?_
    refine g_i2l C dX5_item_8 ?_
    refine g_lconst C 0 dX5_item_9 (by decide) ?_
    refine g_ldc2 C (3) dX5_item_10 w_0 ?_
    refine g_call0i C (rd_S C (k_isIn32 l D q tt (y) 0 (3) 0 (3) (by first | rfl | decide) (by first | rfl | decide)) gX5_item_X5_isIn rfl rfl rfl 3 ok_X5_isIn (rest := []) rfl rfl (Nat.le_of_ble_eq_true rfl) dX5_item_13 ⟨(Nat.le_of_ble_eq_true rfl), (Nat.le_of_ble_eq_true rfl)⟩ ⟨(Nat.le_of_ble_eq_true rfl), (Nat.le_of_ble_eq_true rfl)⟩) (fun _ => rfl) (fun r_13 _ h_13 => ?_)
    obtain rfl := h_13
    refine g_ifneE C 21 dX5_item_16 rfl rfl (fun c_16 => ?_) (fun c_16 => ?_)
    · obtain ⟨j, hj, ej, ec⟩ := ix_le (n := 3) (by omega) c_4
      obtain ⟨n, hn, en⟩ := (hT j (by omega)).2
      refine g_aloadn C dX5_item_21 0 rfl rfl ?_
      refine g_iloadn C dX5_item_22 1 rfl rfl ?_
      refine g_topci (nI j) (ej) ?_
      refine g_iloadn C dX5_item_23 2 rfl rfl ?_
      refine g_callAi C (rd_V C (k_X5_lacks l D q tt a v j y (by first | assumption | omega)) gX5_item_X5_lacks rfl rfl rfl 2 ok_X5_lacks rfl 0 rfl rfl (rest := []) rfl rfl (Nat.le_of_ble_eq_true rfl) dX5_item_24 ⟨(Nat.le_of_ble_eq_true rfl), (Nat.le_of_ble_eq_true rfl)⟩ ⟨(Nat.le_of_ble_eq_true rfl), (Nat.le_of_ble_eq_true rfl)⟩) (fun r_24 _ h_24 => ?_)
      obtain rfl := h_24
      refine g_if_eq C 37 dX5_item_27 rfl (fun c_27 => ?_) (fun c_27 => ?_)
      · refine g_iloadn C dX5_item_37 3 rfl rfl ?_
        refine g_i2l C dX5_item_38 ?_
        refine g_lconst C 0 dX5_item_39 (by decide) ?_
        refine g_aloadn C dX5_item_40 0 rfl rfl ?_
        refine g_get C fx5 w_1 0 18 (v := .ref (a 11)) rfl (by decide) w_2 rfl dX5_item_41 ?_
        refine g_iloadn C dX5_item_44 1 rfl rfl ?_
        refine g_topci (nI j) (ej) ?_
        refine g_iald C 11 (j) (f := (m_sizeOf v)) rfl rfl (by omega) (by decide) dX5_item_45 ?_
        refine g_iconst C 1 dX5_item_46 (by decide) ?_
        refine g_isub C dX5_item_47 ?_
        refine g_i2l C dX5_item_48 ?_
        refine g_call0i C (rd_S C (k_isIn32 l D q tt (z) 0 ((m_sizeOf v) j - 1) 0 (((((m_sizeOf v) j) - 1)).toInt64) (by first | rfl | decide) rfl) gX5_item_X5_isIn rfl rfl rfl 3 ok_X5_isIn (rest := []) rfl rfl (Nat.le_of_ble_eq_true rfl) dX5_item_49 ⟨(Nat.le_of_ble_eq_true rfl), (Nat.le_of_ble_eq_true rfl)⟩ ⟨(Nat.le_of_ble_eq_true rfl), (Nat.le_of_ble_eq_true rfl)⟩) (fun _ => rfl) (fun r_49 _ h_49 => ?_)
        obtain rfl := h_49
        refine g_ifeqE C 69 dX5_item_52 rfl rfl (fun c_52 => ?_) (fun c_52 => ?_)
        · refine g_bipush C (-12) dX5_item_69 (by decide) ?_
          exact g_iret C () hr dX5_item_71 (Nat.le_of_ble_eq_true rfl) (Nat.le_of_ble_eq_true rfl) rfl (by unfold R_item; rw [if_pos ⟨c_4, c_16⟩, ec, if_neg (Decidable.not_not.mpr c_27), if_neg c_52])
        · have hz_ : 0 ≤ z ∧ z < nI n := by have h_ := c_52; rw [en] at h_; exact ⟨h_.1, (le_pred2 (by omega)).mp h_.2⟩
          obtain ⟨i, hi, ei, ei2⟩ := ix_lt (by omega) hz_
          refine g_aloadn C dX5_item_55 0 rfl rfl ?_
          refine g_get C fx5 w_1 0 19 (v := .ref (a 12)) rfl (by decide) w_3 rfl dX5_item_56 ?_
          refine g_bipush C 40 dX5_item_59 (by decide) ?_
          refine g_iloadn C dX5_item_61 1 rfl rfl ?_
          refine g_topci (nI j) (ej) ?_
          refine g_imul C dX5_item_62 ?_
          refine g_iloadn C dX5_item_63 3 rfl rfl ?_
          refine g_topci (nI i) (ei) ?_
          refine g_iadd C dX5_item_64 ?_
          refine g_iald C 12 (((40 * j) + i)) (f := (m_numbers v)) rfl (ix_add (ix_mul rfl rfl) rfl) (by omega) (by decide) dX5_item_65 ?_
          refine g_goto C 71 dX5_item_66 rfl ?_
          exact g_iret C () hr dX5_item_71 (Nat.le_of_ble_eq_true rfl) (Nat.le_of_ble_eq_true rfl) rfl (by unfold R_item; rw [if_pos ⟨c_4, c_16⟩, ec, if_neg (Decidable.not_not.mpr c_27), if_pos c_52, ei2])
      · refine g_aloadn C dX5_item_30 0 rfl rfl ?_
        refine g_iloadn C dX5_item_31 1 rfl rfl ?_
        refine g_topci (nI j) (ej) ?_
        refine g_iloadn C dX5_item_32 2 rfl rfl ?_
        refine g_callAi C (rd_V C (k_X5_lacks l D q tt a v j y (by first | assumption | omega)) gX5_item_X5_lacks rfl rfl rfl 2 ok_X5_lacks rfl 0 rfl rfl (rest := []) rfl rfl (Nat.le_of_ble_eq_true rfl) dX5_item_33 ⟨(Nat.le_of_ble_eq_true rfl), (Nat.le_of_ble_eq_true rfl)⟩ ⟨(Nat.le_of_ble_eq_true rfl), (Nat.le_of_ble_eq_true rfl)⟩) (fun r_33 _ h_33 => ?_)
        obtain rfl := h_33
        exact g_iret C () hr dX5_item_36 (Nat.le_of_ble_eq_true rfl) (Nat.le_of_ble_eq_true rfl) rfl (by unfold R_item; rw [if_pos ⟨c_4, c_16⟩, ec, if_pos c_27])
    · refine g_iconst C (-1) dX5_item_19 (by decide) ?_
      exact g_iret C () hr dX5_item_20 (Nat.le_of_ble_eq_true rfl) (Nat.le_of_ble_eq_true rfl) rfl (by have hn_ : ¬ ((0 ≤ x ∧ x ≤ 3) ∧ (0 ≤ y ∧ y ≤ 3)) := fun h => c_16 h.2; unfold R_item; rw [if_neg hn_])

set_option maxRecDepth 100000 in
set_option maxHeartbeats 4000000 in
theorem k_X5_put (l : Launch) (D : va_G) (q : Nat → ClassId) (tt : Nat → Nat) (a : Nat → Nat) (v : MC) (x : Int32) (y : Int32) (z : Int32) (hT : ShG (m_sortOf v) (m_sizeOf v)) : MI l D q tt yX5_put wsX5_put ({ frames := 2, cells := 0, slots := 0, locals := 45 } : Room) [.ref (a 0), .int x, .int y, .int z] (mw q a v) (fun (r : Int32) (u : Nat → Int32) => r = R_put (m_sortOf v) (m_sizeOf v) x y ∧ u = M_put (m_sortOf v) (m_sizeOf v) (m_numbers v) x y z) (fun u => (mw q a ((m_s v), (m_held v), (m_aside v), (m_before v), (m_untried v), (m_isHeld v), (m_tape v), (m_taped v), (m_token v), (m_from v), (m_to v), (m_value v), (m_isWrong v), (m_heard v), (m_isMoved v), (m_rows v), (m_rowN v), (m_sortOf v), (m_sizeOf v), u, (m_holdsWhat v), (m_holdsWhich v), (m_holdsMany v), (m_bodies v), (m_ran v), (m_actKind v), (m_actN v), (m_actA v), (m_isParted v)))) 0 0 := by
  refine MI.of RX5 [(0, .ref (a 0)), (1, .int x), (2, .int y), (3, .int z)] (by decide) rfl rfl (Nat.le_of_ble_eq_true rfl) rfl ?_
  intro p e s m args below meth c A C hr hnm
  have w_0 : ∀ w ∈ u_ws RX5 TX5 29, w ∈ wsX5_put := by decide +kernel
  have w_1 : Cond.fieldLink RX5 38 (TX5 17).1 (TX5 17).2.1 (TX5 17).2.2.1 ∈ wsX5_put := by decide +kernel
  have w_2 : Cond.fieldLink RX5 41 (TX5 18).1 (TX5 18).2.1 (TX5 18).2.2.1 ∈ wsX5_put := by decide +kernel
  have w_3 : Cond.fieldLink RX5 44 (TX5 19).1 (TX5 19).2.1 (TX5 19).2.2.1 ∈ wsX5_put := by decide +kernel
  refine g_iloadn C dX5_put_0 1 rfl rfl ?_
  refine g_call0i C (rd_S C (k_X5_isSheet l D q tt x ) gX5_put_X5_isSheet rfl rfl rfl 1 ok_X5_isSheet (rest := []) rfl rfl (Nat.le_of_ble_eq_true rfl) dX5_put_1 ⟨(Nat.le_of_ble_eq_true rfl), (Nat.le_of_ble_eq_true rfl)⟩ ⟨(Nat.le_of_ble_eq_true rfl), (Nat.le_of_ble_eq_true rfl)⟩) (fun _ => rfl) (fun r_1 _ h_1 => ?_)
  obtain rfl := h_1
  refine g_ifneE C 9 dX5_put_4 rfl rfl (fun c_4 => ?_) (fun c_4 => ?_)
  · obtain ⟨j, hj, ej, ec⟩ := ix_le (n := 3) (by omega) c_4
    obtain ⟨n, hn, en⟩ := (hT j (by omega)).2
    refine g_aloadn C dX5_put_9 0 rfl rfl ?_
    refine g_get C fx5 w_0 0 17 (v := .ref (a 10)) rfl (by decide) w_1 rfl dX5_put_10 ?_
    refine g_iloadn C dX5_put_13 1 rfl rfl ?_
    refine g_topci (nI j) (ej) ?_
    refine g_iald C 10 (j) (f := (m_sortOf v)) rfl rfl (by omega) (by decide) dX5_put_14 ?_
    refine g_if_ge C 21 dX5_put_15 rfl (fun c_15 => ?_) (fun c_15 => ?_)
    · refine g_iloadn C dX5_put_21 2 rfl rfl ?_
      refine g_i2l C dX5_put_22 ?_
      refine g_lconst C 0 dX5_put_23 (by decide) ?_
      refine g_aloadn C dX5_put_24 0 rfl rfl ?_
      refine g_get C fx5 w_0 0 18 (v := .ref (a 11)) rfl (by decide) w_2 rfl dX5_put_25 ?_
      refine g_iloadn C dX5_put_28 1 rfl rfl ?_
      refine g_topci (nI j) (ej) ?_
      refine g_iald C 11 (j) (f := (m_sizeOf v)) rfl rfl (by omega) (by decide) dX5_put_29 ?_
      refine g_iconst C 1 dX5_put_30 (by decide) ?_
      refine g_isub C dX5_put_31 ?_
      refine g_i2l C dX5_put_32 ?_
      refine g_call0i C (rd_S C (k_isIn32 l D q tt (y) 0 ((m_sizeOf v) j - 1) 0 (((((m_sizeOf v) j) - 1)).toInt64) (by first | rfl | decide) rfl) gX5_put_X5_isIn rfl rfl rfl 3 ok_X5_isIn (rest := []) rfl rfl (Nat.le_of_ble_eq_true rfl) dX5_put_33 ⟨(Nat.le_of_ble_eq_true rfl), (Nat.le_of_ble_eq_true rfl)⟩ ⟨(Nat.le_of_ble_eq_true rfl), (Nat.le_of_ble_eq_true rfl)⟩) (fun _ => rfl) (fun r_33 _ h_33 => ?_)
      obtain rfl := h_33
      refine g_ifneE C 42 dX5_put_36 rfl rfl (fun c_36 => ?_) (fun c_36 => ?_)
      · have hz_ : 0 ≤ y ∧ y < nI n := by have h_ := c_36; rw [en] at h_; exact ⟨h_.1, (le_pred2 (by omega)).mp h_.2⟩
        obtain ⟨i, hi, ei, ei2⟩ := ix_lt (by omega) hz_
        refine g_aloadn C dX5_put_42 0 rfl rfl ?_
        refine g_get C fx5 w_0 0 19 (v := .ref (a 12)) rfl (by decide) w_3 rfl dX5_put_43 ?_
        refine g_bipush C 40 dX5_put_46 (by decide) ?_
        refine g_iloadn C dX5_put_48 1 rfl rfl ?_
        refine g_topci (nI j) (ej) ?_
        refine g_imul C dX5_put_49 ?_
        refine g_iloadn C dX5_put_50 2 rfl rfl ?_
        refine g_topci (nI i) (ei) ?_
        refine g_iadd C dX5_put_51 ?_
        refine g_aloadn C dX5_put_52 0 rfl rfl ?_
        refine g_get C fx5 w_0 0 17 (v := .ref (a 10)) rfl (by decide) w_1 rfl dX5_put_53 ?_
        refine g_iloadn C dX5_put_56 1 rfl rfl ?_
        refine g_topci (nI j) (ej) ?_
        refine g_iald C 10 (j) (f := (m_sortOf v)) rfl rfl (by omega) (by decide) dX5_put_57 ?_
        refine g_if_ne C 66 dX5_put_58 rfl (fun c_58 => ?_) (fun c_58 => ?_)
        · refine g_aloadn C dX5_put_66 0 rfl rfl ?_
          refine g_get C fx5 w_0 0 17 (v := .ref (a 10)) rfl (by decide) w_1 rfl dX5_put_67 ?_
          refine g_iloadn C dX5_put_70 1 rfl rfl ?_
          refine g_topci (nI j) (ej) ?_
          refine g_iald C 10 (j) (f := (m_sortOf v)) rfl rfl (by omega) (by decide) dX5_put_71 ?_
          refine g_iconst C 1 dX5_put_72 (by decide) ?_
          refine g_icmp_ne C 81 dX5_put_73 rfl (fun c_73 => ?_) (fun c_73 => ?_)
          · refine g_iloadn C dX5_put_81 3 rfl rfl ?_
            refine g_iast C 12 (((40 * j) + i)) (f := (m_numbers v)) rfl (ix_add (ix_mul rfl rfl) rfl) (by omega) (by decide) dX5_put_82 (mw q a ((m_s v), (m_held v), (m_aside v), (m_before v), (m_untried v), (m_isHeld v), (m_tape v), (m_taped v), (m_token v), (m_from v), (m_to v), (m_value v), (m_isWrong v), (m_heard v), (m_isMoved v), (m_rows v), (m_rowN v), (m_sortOf v), (m_sizeOf v), (upd (m_numbers v) ((40 * j) + i) z), (m_holdsWhat v), (m_holdsWhich v), (m_holdsMany v), (m_bodies v), (m_ran v), (m_actKind v), (m_actN v), (m_actA v), (m_isParted v))) rfl ?_
            refine g_iconst C 1 dX5_put_83 (by decide) ?_
            exact g_iret C (upd (m_numbers v) ((40 * j) + i) z) hr dX5_put_84 (Nat.le_of_ble_eq_true rfl) (Nat.le_of_ble_eq_true rfl) rfl (by unfold R_put M_put; rw [if_pos c_4, if_pos ⟨c_4, by rw [ec]; exact Int32.not_lt.mpr c_15, by rw [ec]; exact c_36⟩, ec, if_neg (Int32.not_lt.mpr c_15), if_pos c_36, ei2]; unfold nwS; rw [if_neg c_58, if_neg c_73]; exact ⟨rfl, rfl⟩)
          · refine g_iloadn C dX5_put_76 3 rfl rfl ?_
            refine g_i2s C dX5_put_77 ?_
            refine g_goto C 82 dX5_put_78 rfl ?_
            refine g_iast C 12 (((40 * j) + i)) (f := (m_numbers v)) rfl (ix_add (ix_mul rfl rfl) rfl) (by omega) (by decide) dX5_put_82 (mw q a ((m_s v), (m_held v), (m_aside v), (m_before v), (m_untried v), (m_isHeld v), (m_tape v), (m_taped v), (m_token v), (m_from v), (m_to v), (m_value v), (m_isWrong v), (m_heard v), (m_isMoved v), (m_rows v), (m_rowN v), (m_sortOf v), (m_sizeOf v), (upd (m_numbers v) ((40 * j) + i) ((z).toInt16.toInt32)), (m_holdsWhat v), (m_holdsWhich v), (m_holdsMany v), (m_bodies v), (m_ran v), (m_actKind v), (m_actN v), (m_actA v), (m_isParted v))) rfl ?_
            refine g_iconst C 1 dX5_put_83 (by decide) ?_
            exact g_iret C (upd (m_numbers v) ((40 * j) + i) ((z).toInt16.toInt32)) hr dX5_put_84 (Nat.le_of_ble_eq_true rfl) (Nat.le_of_ble_eq_true rfl) rfl (by unfold R_put M_put; rw [if_pos c_4, if_pos ⟨c_4, by rw [ec]; exact Int32.not_lt.mpr c_15, by rw [ec]; exact c_36⟩, ec, if_neg (Int32.not_lt.mpr c_15), if_pos c_36, ei2]; unfold nwS; rw [if_neg c_58, if_pos c_73]; exact ⟨rfl, rfl⟩)
        · refine g_iloadn C dX5_put_61 3 rfl rfl ?_
          refine g_i2b C dX5_put_62 ?_
          refine g_goto C 82 dX5_put_63 rfl ?_
          refine g_iast C 12 (((40 * j) + i)) (f := (m_numbers v)) rfl (ix_add (ix_mul rfl rfl) rfl) (by omega) (by decide) dX5_put_82 (mw q a ((m_s v), (m_held v), (m_aside v), (m_before v), (m_untried v), (m_isHeld v), (m_tape v), (m_taped v), (m_token v), (m_from v), (m_to v), (m_value v), (m_isWrong v), (m_heard v), (m_isMoved v), (m_rows v), (m_rowN v), (m_sortOf v), (m_sizeOf v), (upd (m_numbers v) ((40 * j) + i) ((z).toInt8.toInt32)), (m_holdsWhat v), (m_holdsWhich v), (m_holdsMany v), (m_bodies v), (m_ran v), (m_actKind v), (m_actN v), (m_actA v), (m_isParted v))) rfl ?_
          refine g_iconst C 1 dX5_put_83 (by decide) ?_
          exact g_iret C (upd (m_numbers v) ((40 * j) + i) ((z).toInt8.toInt32)) hr dX5_put_84 (Nat.le_of_ble_eq_true rfl) (Nat.le_of_ble_eq_true rfl) rfl (by unfold R_put M_put; rw [if_pos c_4, if_pos ⟨c_4, by rw [ec]; exact Int32.not_lt.mpr c_15, by rw [ec]; exact c_36⟩, ec, if_neg (Int32.not_lt.mpr c_15), if_pos c_36, ei2]; unfold nwS; rw [if_pos c_58]; exact ⟨rfl, rfl⟩)
      · refine g_bipush C (-12) dX5_put_39 (by decide) ?_
        exact g_iret C (m_numbers v) hr dX5_put_41 (Nat.le_of_ble_eq_true rfl) (Nat.le_of_ble_eq_true rfl) rfl (by unfold R_put M_put; rw [if_pos c_4, if_neg (fun h => c_36 (by have := h.2.2; rw [ec] at this; exact this)), ec, if_neg (Int32.not_lt.mpr c_15), if_neg c_36]; exact ⟨rfl, rfl⟩)
    · refine g_bipush C (-11) dX5_put_18 (by decide) ?_
      exact g_iret C (m_numbers v) hr dX5_put_20 (Nat.le_of_ble_eq_true rfl) (Nat.le_of_ble_eq_true rfl) rfl (by unfold R_put M_put; rw [if_pos c_4, if_neg (fun h => h.2.1 (by rw [ec]; exact Int32.not_le.mp c_15)), ec, if_pos (Int32.not_le.mp c_15)]; exact ⟨rfl, rfl⟩)
  · refine g_iconst C (-1) dX5_put_7 (by decide) ?_
    exact g_iret C (m_numbers v) hr dX5_put_8 (Nat.le_of_ble_eq_true rfl) (Nat.le_of_ble_eq_true rfl) rfl (by unfold R_put M_put; rw [if_neg c_4, if_neg (fun h => c_4 h.1)]; exact ⟨rfl, rfl⟩)

set_option maxRecDepth 100000 in
set_option maxHeartbeats 4000000 in
theorem k_X5_sheet (l : Launch) (D : va_G) (q : Nat → ClassId) (tt : Nat → Nat) (a : Nat → Nat) (v : MC) (x : Int32) (y : Int32) (z : Int32)  : MI l D q tt yX5_sheet wsX5_sheet ({ frames := 2, cells := 0, slots := 0, locals := 45 } : Room) [.ref (a 0), .int x, .int y, .int z] (mw q a v) (fun (r : Int32) (u : (Nat → Int32) × (Nat → Int32) × (Nat → Int32)) => r = R_sheet x y z ∧ u.1 = T_sheet (m_sortOf v) x y z ∧ u.2.1 = Z_sheet (m_sizeOf v) x y z ∧ u.2.2 = M_sheet (m_numbers v) x y z) (fun u => (mw q a ((m_s v), (m_held v), (m_aside v), (m_before v), (m_untried v), (m_isHeld v), (m_tape v), (m_taped v), (m_token v), (m_from v), (m_to v), (m_value v), (m_isWrong v), (m_heard v), (m_isMoved v), (m_rows v), (m_rowN v), u.1, u.2.1, u.2.2, (m_holdsWhat v), (m_holdsWhich v), (m_holdsMany v), (m_bodies v), (m_ran v), (m_actKind v), (m_actN v), (m_actA v), (m_isParted v)))) 0 0 := by
  refine MI.of RX5 [(0, .ref (a 0)), (1, .int x), (2, .int y), (3, .int z)] (by decide) rfl rfl (Nat.le_of_ble_eq_true rfl) rfl ?_
  intro p e s m args below meth c A C hr hnm
  have w_0 : Cond.constantLong RX5 255 (-1) ∈ wsX5_sheet := by decide +kernel
  have w_1 : Cond.constantLong RX5 152 (3) ∈ wsX5_sheet := by decide +kernel
  have w_2 : ∀ w ∈ u_ws RX5 TX5 29, w ∈ wsX5_sheet := by decide +kernel
  have w_3 : Cond.fieldLink RX5 38 (TX5 17).1 (TX5 17).2.1 (TX5 17).2.2.1 ∈ wsX5_sheet := by decide +kernel
  have w_4 : Cond.fieldLink RX5 41 (TX5 18).1 (TX5 18).2.1 (TX5 18).2.2.1 ∈ wsX5_sheet := by decide +kernel
  have w_5 : Cond.fieldLink RX5 44 (TX5 19).1 (TX5 19).2.1 (TX5 19).2.2.1 ∈ wsX5_sheet := by decide +kernel
  refine g_iloadn C dX5_sheet_0 1 rfl rfl ?_
  refine g_call0i C (rd_S C (k_X5_isSheet l D q tt x ) gX5_sheet_X5_isSheet rfl rfl rfl 1 ok_X5_isSheet (rest := []) rfl rfl (Nat.le_of_ble_eq_true rfl) dX5_sheet_1 ⟨(Nat.le_of_ble_eq_true rfl), (Nat.le_of_ble_eq_true rfl)⟩ ⟨(Nat.le_of_ble_eq_true rfl), (Nat.le_of_ble_eq_true rfl)⟩) (fun _ => rfl) (fun r_1 _ h_1 => ?_)
  obtain rfl := h_1
  refine g_ifeqE C 31 dX5_sheet_4 rfl rfl (fun c_4 => ?_) (fun c_4 => ?_)
  · refine g_iconst C (-1) dX5_sheet_31 (by decide) ?_
    exact g_iret C ((m_sortOf v), (m_sizeOf v), (m_numbers v)) hr dX5_sheet_32 (Nat.le_of_ble_eq_true rfl) (Nat.le_of_ble_eq_true rfl) rfl (by have hn_ : ¬ seG x y z := fun h => c_4 h.1; unfold R_sheet T_sheet Z_sheet M_sheet; rw [if_neg hn_, if_neg (fun h => hn_ h.1), if_neg (fun h => hn_ h.1), if_neg (fun h => hn_ h.1)]; exact ⟨rfl, rfl, rfl, rfl⟩)
  · refine g_iloadn C dX5_sheet_7 2 rfl rfl ?_
    refine g_i2l C dX5_sheet_8 ?_
    refine g_ldc2 C (-1) dX5_sheet_9 w_0 ?_
    refine g_ldc2 C (3) dX5_sheet_12 w_1 ?_
    refine g_call0i C (rd_S C (k_isIn32 l D q tt (y) (-1) (3) (-1) (3) (by decide) (by decide)) gX5_sheet_X5_isIn rfl rfl rfl 3 ok_X5_isIn (rest := []) rfl rfl (Nat.le_of_ble_eq_true rfl) dX5_sheet_15 ⟨(Nat.le_of_ble_eq_true rfl), (Nat.le_of_ble_eq_true rfl)⟩ ⟨(Nat.le_of_ble_eq_true rfl), (Nat.le_of_ble_eq_true rfl)⟩) (fun _ => rfl) (fun r_15 _ h_15 => ?_)
    obtain rfl := h_15
    refine g_ifeqE C 31 dX5_sheet_18 rfl rfl (fun c_18 => ?_) (fun c_18 => ?_)
    · refine g_iconst C (-1) dX5_sheet_31 (by decide) ?_
      exact g_iret C ((m_sortOf v), (m_sizeOf v), (m_numbers v)) hr dX5_sheet_32 (Nat.le_of_ble_eq_true rfl) (Nat.le_of_ble_eq_true rfl) rfl (by have hn_ : ¬ seG x y z := fun h => c_18 h.2.1; unfold R_sheet T_sheet Z_sheet M_sheet; rw [if_neg hn_, if_neg (fun h => hn_ h.1), if_neg (fun h => hn_ h.1), if_neg (fun h => hn_ h.1)]; exact ⟨rfl, rfl, rfl, rfl⟩)
    · refine g_iloadn C dX5_sheet_21 2 rfl rfl ?_
      refine g_if_lt C 33 dX5_sheet_22 rfl (fun c_22 => ?_) (fun c_22 => ?_)
      · refine g_iloadn C dX5_sheet_33 2 rfl rfl ?_
        refine g_if_lt C 44 dX5_sheet_34 rfl (fun c_34 => ?_) (fun c_34 => ?_)
        · obtain ⟨j, hj, ej, ec⟩ := ix_le (n := 3) (by omega) c_4
          refine g_aloadn C dX5_sheet_44 0 rfl rfl ?_
          refine g_get C fx5 w_2 0 17 (v := .ref (a 10)) rfl (by decide) w_3 rfl dX5_sheet_45 ?_
          refine g_iloadn C dX5_sheet_48 1 rfl rfl ?_
          refine g_topci (nI j) (ej) ?_
          refine g_iloadn C dX5_sheet_49 2 rfl rfl ?_
          refine g_iast C 10 (j) (f := (m_sortOf v)) rfl rfl (by omega) (by decide) dX5_sheet_50 (mw q a ((m_s v), (m_held v), (m_aside v), (m_before v), (m_untried v), (m_isHeld v), (m_tape v), (m_taped v), (m_token v), (m_from v), (m_to v), (m_value v), (m_isWrong v), (m_heard v), (m_isMoved v), (m_rows v), (m_rowN v), (upd (m_sortOf v) j y), (m_sizeOf v), (m_numbers v), (m_holdsWhat v), (m_holdsWhich v), (m_holdsMany v), (m_bodies v), (m_ran v), (m_actKind v), (m_actN v), (m_actA v), (m_isParted v))) rfl ?_
          refine g_aloadn C dX5_sheet_51 0 rfl rfl ?_
          refine g_get C fx5 w_2 0 18 (v := .ref (a 11)) rfl (by decide) w_4 rfl dX5_sheet_52 ?_
          refine g_iloadn C dX5_sheet_55 1 rfl rfl ?_
          refine g_topci (nI j) (ej) ?_
          refine g_iloadn C dX5_sheet_56 2 rfl rfl ?_
          refine g_if_ge C 64 dX5_sheet_57 rfl (fun c_57 => ?_) (fun c_57 => ?_)
          · exfalso
            exact absurd c_34 (Int32.not_lt.mpr c_57)
          · refine g_iconst C 0 dX5_sheet_60 (by decide) ?_
            refine g_goto C 65 dX5_sheet_61 rfl ?_
            refine g_iast C 11 (j) (f := (m_sizeOf v)) rfl rfl (by omega) (by decide) dX5_sheet_65 (mw q a ((m_s v), (m_held v), (m_aside v), (m_before v), (m_untried v), (m_isHeld v), (m_tape v), (m_taped v), (m_token v), (m_from v), (m_to v), (m_value v), (m_isWrong v), (m_heard v), (m_isMoved v), (m_rows v), (m_rowN v), (upd (m_sortOf v) j y), (upd (m_sizeOf v) j 0), (m_numbers v), (m_holdsWhat v), (m_holdsWhich v), (m_holdsMany v), (m_bodies v), (m_ran v), (m_actKind v), (m_actN v), (m_actA v), (m_isParted v))) rfl ?_
            refine g_iconst C 0 dX5_sheet_66 (by decide) ?_
            refine g_istore C [(4, .int 0), (0, .ref (a 0)), (1, .int x), (2, .int y), (3, .int z)] dX5_sheet_67 (by decide) rfl ?_
            have J_69 : ∀ (fu : Nat) (i : Nat), 40 - i < fu → (i ≤ 40) → G p l e ({ frames := 2, cells := 0, slots := 0, locals := 45 } : Room) s m args below meth c 5 D A (MQ below (va_Qi (fun (r : Int32) (u : (Nat → Int32) × (Nat → Int32) × (Nat → Int32)) => r = R_sheet x y z ∧ u.1 = T_sheet (m_sortOf v) x y z ∧ u.2.1 = Z_sheet (m_sizeOf v) x y z ∧ u.2.2 = M_sheet (m_numbers v) x y z) (Bw D A (fun u => (mw q a ((m_s v), (m_held v), (m_aside v), (m_before v), (m_untried v), (m_isHeld v), (m_tape v), (m_taped v), (m_token v), (m_from v), (m_to v), (m_value v), (m_isWrong v), (m_heard v), (m_isMoved v), (m_rows v), (m_rowN v), u.1, u.2.1, u.2.2, (m_holdsWhat v), (m_holdsWhich v), (m_holdsMany v), (m_bodies v), (m_ran v), (m_actKind v), (m_actN v), (m_actA v), (m_isParted v))))) A) args s 0 0 A) 69 [(0, .ref (a 0)), (1, .int x), (2, .int y), (3, .int z), (4, .int (nI i))] [] (mw q a ((m_s v), (m_held v), (m_aside v), (m_before v), (m_untried v), (m_isHeld v), (m_tape v), (m_taped v), (m_token v), (m_from v), (m_to v), (m_value v), (m_isWrong v), (m_heard v), (m_isMoved v), (m_rows v), (m_rowN v), (upd (m_sortOf v) j y), (upd (m_sizeOf v) j 0), (clM (m_numbers v) j i), (m_holdsWhat v), (m_holdsWhich v), (m_holdsMany v), (m_bodies v), (m_ran v), (m_actKind v), (m_actN v), (m_actA v), (m_isParted v))) 0 0 := by
              intro fu
              induction fu with
              | zero =>
                intro i hfu
                exact absurd hfu (Nat.not_lt_zero _)
              | succ fu ih =>
                intro i hfu hi
                refine g_iload C dX5_sheet_69 4 rfl ?_
                refine g_bipush C 40 dX5_sheet_71 (by decide) ?_
                refine g_icmpN_ge C 95 (i) (40) dX5_sheet_73 rfl (by omega) (by omega) (fun c_73 => ?_) (fun c_73 => ?_)
                · refine g_iconst C 1 dX5_sheet_95 (by decide) ?_
                  exact g_iret C ((upd (m_sortOf v) j y), (upd (m_sizeOf v) j 0), (clM (m_numbers v) j i)) hr dX5_sheet_96 (Nat.le_of_ble_eq_true rfl) (Nat.le_of_ble_eq_true rfl) rfl (by have hg_ : seG x y z := ⟨c_4, c_18, fun h => absurd c_22 (Int32.not_lt.mpr h)⟩; unfold R_sheet T_sheet Z_sheet M_sheet; have hl_ : ¬ (0 ≤ y ∧ z < 0) := fun h => absurd c_34 (Int32.not_lt.mpr h.1); have hh_ : seH x y z := ⟨hg_, hl_⟩; rw [if_pos hg_, if_neg hl_, if_pos hh_, if_pos hh_, if_pos hh_, ec]; exact ⟨rfl, rfl, by rw [if_pos (Int32.not_le.mp c_57)], by rw [show i = 40 by omega]⟩)
                · refine g_aloadn C dX5_sheet_76 0 rfl rfl ?_
                  refine g_get C fx5 w_2 0 19 (v := .ref (a 12)) rfl (by decide) w_5 rfl dX5_sheet_77 ?_
                  refine g_bipush C 40 dX5_sheet_80 (by decide) ?_
                  refine g_iloadn C dX5_sheet_82 1 rfl rfl ?_
                  refine g_topci (nI j) (ej) ?_
                  refine g_imul C dX5_sheet_83 ?_
                  refine g_iload C dX5_sheet_84 4 rfl ?_
                  refine g_iadd C dX5_sheet_86 ?_
                  refine g_iconst C 0 dX5_sheet_87 (by decide) ?_
                  refine g_iast C 12 (((40 * j) + i)) (f := (clM (m_numbers v) j i)) rfl (ix_add (ix_mul rfl rfl) rfl) (by omega) (by decide) dX5_sheet_88 (mw q a ((m_s v), (m_held v), (m_aside v), (m_before v), (m_untried v), (m_isHeld v), (m_tape v), (m_taped v), (m_token v), (m_from v), (m_to v), (m_value v), (m_isWrong v), (m_heard v), (m_isMoved v), (m_rows v), (m_rowN v), (upd (m_sortOf v) j y), (upd (m_sizeOf v) j 0), (upd (clM (m_numbers v) j i) ((40 * j) + i) 0), (m_holdsWhat v), (m_holdsWhich v), (m_holdsMany v), (m_bodies v), (m_ran v), (m_actKind v), (m_actN v), (m_actA v), (m_isParted v))) rfl ?_
                  refine g_wsc (mw q a ((m_s v), (m_held v), (m_aside v), (m_before v), (m_untried v), (m_isHeld v), (m_tape v), (m_taped v), (m_token v), (m_from v), (m_to v), (m_value v), (m_isWrong v), (m_heard v), (m_isMoved v), (m_rows v), (m_rowN v), (upd (m_sortOf v) j y), (upd (m_sizeOf v) j 0), (clM (m_numbers v) j (i + 1)), (m_holdsWhat v), (m_holdsWhich v), (m_holdsMany v), (m_bodies v), (m_ran v), (m_actKind v), (m_actN v), (m_actA v), (m_isParted v))) (rfl) ?_
                  refine g_iinc C (nI (i + 1)) [(4, .int (nI (i + 1))), (0, .ref (a 0)), (1, .int x), (2, .int y), (3, .int z)] dX5_sheet_89 4 rfl (nI_add i 1) (by decide) rfl ?_
                  refine g_goto C 69 dX5_sheet_92 rfl ?_
                  refine g_sub [1, 2, 3, 4, 0] (lv' := [(0, .ref (a 0)), (1, .int x), (2, .int y), (3, .int z), (4, .int (nI (i + 1)))]) rfl ?_
                  exact ih ((i + 1)) (by omega) (by first | assumption | omega)
            refine g_wsc (mw q a ((m_s v), (m_held v), (m_aside v), (m_before v), (m_untried v), (m_isHeld v), (m_tape v), (m_taped v), (m_token v), (m_from v), (m_to v), (m_value v), (m_isWrong v), (m_heard v), (m_isMoved v), (m_rows v), (m_rowN v), (upd (m_sortOf v) j y), (upd (m_sizeOf v) j 0), (clM (m_numbers v) j 0), (m_holdsWhat v), (m_holdsWhich v), (m_holdsMany v), (m_bodies v), (m_ran v), (m_actKind v), (m_actN v), (m_actA v), (m_isParted v))) (rfl) ?_
            refine g_sub [1, 2, 3, 4, 0] (lv' := [(0, .ref (a 0)), (1, .int x), (2, .int y), (3, .int z), (4, .int 0)]) rfl ?_
            exact J_69 _ (0) (Nat.lt_succ_self _) (by first | assumption | omega)
        · exfalso
          exact c_34 c_22
      · refine g_iloadn C dX5_sheet_25 3 rfl rfl ?_
        refine g_bipush C 40 dX5_sheet_26 (by decide) ?_
        refine g_icmp_le C 33 dX5_sheet_28 rfl (fun c_28 => ?_) (fun c_28 => ?_)
        · refine g_iloadn C dX5_sheet_33 2 rfl rfl ?_
          refine g_if_lt C 44 dX5_sheet_34 rfl (fun c_34 => ?_) (fun c_34 => ?_)
          · exfalso
            exact c_22 c_34
          · refine g_iloadn C dX5_sheet_37 3 rfl rfl ?_
            refine g_if_ge C 44 dX5_sheet_38 rfl (fun c_38 => ?_) (fun c_38 => ?_)
            · obtain ⟨j, hj, ej, ec⟩ := ix_le (n := 3) (by omega) c_4
              refine g_aloadn C dX5_sheet_44 0 rfl rfl ?_
              refine g_get C fx5 w_2 0 17 (v := .ref (a 10)) rfl (by decide) w_3 rfl dX5_sheet_45 ?_
              refine g_iloadn C dX5_sheet_48 1 rfl rfl ?_
              refine g_topci (nI j) (ej) ?_
              refine g_iloadn C dX5_sheet_49 2 rfl rfl ?_
              refine g_iast C 10 (j) (f := (m_sortOf v)) rfl rfl (by omega) (by decide) dX5_sheet_50 (mw q a ((m_s v), (m_held v), (m_aside v), (m_before v), (m_untried v), (m_isHeld v), (m_tape v), (m_taped v), (m_token v), (m_from v), (m_to v), (m_value v), (m_isWrong v), (m_heard v), (m_isMoved v), (m_rows v), (m_rowN v), (upd (m_sortOf v) j y), (m_sizeOf v), (m_numbers v), (m_holdsWhat v), (m_holdsWhich v), (m_holdsMany v), (m_bodies v), (m_ran v), (m_actKind v), (m_actN v), (m_actA v), (m_isParted v))) rfl ?_
              refine g_aloadn C dX5_sheet_51 0 rfl rfl ?_
              refine g_get C fx5 w_2 0 18 (v := .ref (a 11)) rfl (by decide) w_4 rfl dX5_sheet_52 ?_
              refine g_iloadn C dX5_sheet_55 1 rfl rfl ?_
              refine g_topci (nI j) (ej) ?_
              refine g_iloadn C dX5_sheet_56 2 rfl rfl ?_
              refine g_if_ge C 64 dX5_sheet_57 rfl (fun c_57 => ?_) (fun c_57 => ?_)
              · refine g_iloadn C dX5_sheet_64 3 rfl rfl ?_
                refine g_iast C 11 (j) (f := (m_sizeOf v)) rfl rfl (by omega) (by decide) dX5_sheet_65 (mw q a ((m_s v), (m_held v), (m_aside v), (m_before v), (m_untried v), (m_isHeld v), (m_tape v), (m_taped v), (m_token v), (m_from v), (m_to v), (m_value v), (m_isWrong v), (m_heard v), (m_isMoved v), (m_rows v), (m_rowN v), (upd (m_sortOf v) j y), (upd (m_sizeOf v) j z), (m_numbers v), (m_holdsWhat v), (m_holdsWhich v), (m_holdsMany v), (m_bodies v), (m_ran v), (m_actKind v), (m_actN v), (m_actA v), (m_isParted v))) rfl ?_
                refine g_iconst C 0 dX5_sheet_66 (by decide) ?_
                refine g_istore C [(4, .int 0), (0, .ref (a 0)), (1, .int x), (2, .int y), (3, .int z)] dX5_sheet_67 (by decide) rfl ?_
                have J_69 : ∀ (fu : Nat) (i : Nat), 40 - i < fu → (i ≤ 40) → G p l e ({ frames := 2, cells := 0, slots := 0, locals := 45 } : Room) s m args below meth c 5 D A (MQ below (va_Qi (fun (r : Int32) (u : (Nat → Int32) × (Nat → Int32) × (Nat → Int32)) => r = R_sheet x y z ∧ u.1 = T_sheet (m_sortOf v) x y z ∧ u.2.1 = Z_sheet (m_sizeOf v) x y z ∧ u.2.2 = M_sheet (m_numbers v) x y z) (Bw D A (fun u => (mw q a ((m_s v), (m_held v), (m_aside v), (m_before v), (m_untried v), (m_isHeld v), (m_tape v), (m_taped v), (m_token v), (m_from v), (m_to v), (m_value v), (m_isWrong v), (m_heard v), (m_isMoved v), (m_rows v), (m_rowN v), u.1, u.2.1, u.2.2, (m_holdsWhat v), (m_holdsWhich v), (m_holdsMany v), (m_bodies v), (m_ran v), (m_actKind v), (m_actN v), (m_actA v), (m_isParted v))))) A) args s 0 0 A) 69 [(0, .ref (a 0)), (1, .int x), (2, .int y), (3, .int z), (4, .int (nI i))] [] (mw q a ((m_s v), (m_held v), (m_aside v), (m_before v), (m_untried v), (m_isHeld v), (m_tape v), (m_taped v), (m_token v), (m_from v), (m_to v), (m_value v), (m_isWrong v), (m_heard v), (m_isMoved v), (m_rows v), (m_rowN v), (upd (m_sortOf v) j y), (upd (m_sizeOf v) j z), (clM (m_numbers v) j i), (m_holdsWhat v), (m_holdsWhich v), (m_holdsMany v), (m_bodies v), (m_ran v), (m_actKind v), (m_actN v), (m_actA v), (m_isParted v))) 0 0 := by
                  intro fu
                  induction fu with
                  | zero =>
                    intro i hfu
                    exact absurd hfu (Nat.not_lt_zero _)
                  | succ fu ih =>
                    intro i hfu hi
                    refine g_iload C dX5_sheet_69 4 rfl ?_
                    refine g_bipush C 40 dX5_sheet_71 (by decide) ?_
                    refine g_icmpN_ge C 95 (i) (40) dX5_sheet_73 rfl (by omega) (by omega) (fun c_73 => ?_) (fun c_73 => ?_)
                    · refine g_iconst C 1 dX5_sheet_95 (by decide) ?_
                      exact g_iret C ((upd (m_sortOf v) j y), (upd (m_sizeOf v) j z), (clM (m_numbers v) j i)) hr dX5_sheet_96 (Nat.le_of_ble_eq_true rfl) (Nat.le_of_ble_eq_true rfl) rfl (by have hg_ : seG x y z := ⟨c_4, c_18, fun _ => c_28⟩; unfold R_sheet T_sheet Z_sheet M_sheet; have hl_ : ¬ (0 ≤ y ∧ z < 0) := fun h => absurd h.2 (Int32.not_lt.mpr c_38); have hh_ : seH x y z := ⟨hg_, hl_⟩; rw [if_pos hg_, if_neg hl_, if_pos hh_, if_pos hh_, if_pos hh_, ec]; exact ⟨rfl, rfl, by rw [if_neg (Int32.not_lt.mpr c_57)], by rw [show i = 40 by omega]⟩)
                    · refine g_aloadn C dX5_sheet_76 0 rfl rfl ?_
                      refine g_get C fx5 w_2 0 19 (v := .ref (a 12)) rfl (by decide) w_5 rfl dX5_sheet_77 ?_
                      refine g_bipush C 40 dX5_sheet_80 (by decide) ?_
                      refine g_iloadn C dX5_sheet_82 1 rfl rfl ?_
                      refine g_topci (nI j) (ej) ?_
                      refine g_imul C dX5_sheet_83 ?_
                      refine g_iload C dX5_sheet_84 4 rfl ?_
                      refine g_iadd C dX5_sheet_86 ?_
                      refine g_iconst C 0 dX5_sheet_87 (by decide) ?_
                      refine g_iast C 12 (((40 * j) + i)) (f := (clM (m_numbers v) j i)) rfl (ix_add (ix_mul rfl rfl) rfl) (by omega) (by decide) dX5_sheet_88 (mw q a ((m_s v), (m_held v), (m_aside v), (m_before v), (m_untried v), (m_isHeld v), (m_tape v), (m_taped v), (m_token v), (m_from v), (m_to v), (m_value v), (m_isWrong v), (m_heard v), (m_isMoved v), (m_rows v), (m_rowN v), (upd (m_sortOf v) j y), (upd (m_sizeOf v) j z), (upd (clM (m_numbers v) j i) ((40 * j) + i) 0), (m_holdsWhat v), (m_holdsWhich v), (m_holdsMany v), (m_bodies v), (m_ran v), (m_actKind v), (m_actN v), (m_actA v), (m_isParted v))) rfl ?_
                      refine g_wsc (mw q a ((m_s v), (m_held v), (m_aside v), (m_before v), (m_untried v), (m_isHeld v), (m_tape v), (m_taped v), (m_token v), (m_from v), (m_to v), (m_value v), (m_isWrong v), (m_heard v), (m_isMoved v), (m_rows v), (m_rowN v), (upd (m_sortOf v) j y), (upd (m_sizeOf v) j z), (clM (m_numbers v) j (i + 1)), (m_holdsWhat v), (m_holdsWhich v), (m_holdsMany v), (m_bodies v), (m_ran v), (m_actKind v), (m_actN v), (m_actA v), (m_isParted v))) (rfl) ?_
                      refine g_iinc C (nI (i + 1)) [(4, .int (nI (i + 1))), (0, .ref (a 0)), (1, .int x), (2, .int y), (3, .int z)] dX5_sheet_89 4 rfl (nI_add i 1) (by decide) rfl ?_
                      refine g_goto C 69 dX5_sheet_92 rfl ?_
                      refine g_sub [1, 2, 3, 4, 0] (lv' := [(0, .ref (a 0)), (1, .int x), (2, .int y), (3, .int z), (4, .int (nI (i + 1)))]) rfl ?_
                      exact ih ((i + 1)) (by omega) (by first | assumption | omega)
                refine g_wsc (mw q a ((m_s v), (m_held v), (m_aside v), (m_before v), (m_untried v), (m_isHeld v), (m_tape v), (m_taped v), (m_token v), (m_from v), (m_to v), (m_value v), (m_isWrong v), (m_heard v), (m_isMoved v), (m_rows v), (m_rowN v), (upd (m_sortOf v) j y), (upd (m_sizeOf v) j z), (clM (m_numbers v) j 0), (m_holdsWhat v), (m_holdsWhich v), (m_holdsMany v), (m_bodies v), (m_ran v), (m_actKind v), (m_actN v), (m_actA v), (m_isParted v))) (rfl) ?_
                refine g_sub [1, 2, 3, 4, 0] (lv' := [(0, .ref (a 0)), (1, .int x), (2, .int y), (3, .int z), (4, .int 0)]) rfl ?_
                exact J_69 _ (0) (Nat.lt_succ_self _) (by first | assumption | omega)
              · exfalso
                exact c_34 (Int32.not_le.mp c_57)
            · refine g_bipush C (-14) dX5_sheet_41 (by decide) ?_
              exact g_iret C ((m_sortOf v), (m_sizeOf v), (m_numbers v)) hr dX5_sheet_43 (Nat.le_of_ble_eq_true rfl) (Nat.le_of_ble_eq_true rfl) rfl (by have hg_ : seG x y z := ⟨c_4, c_18, fun _ => c_28⟩; unfold R_sheet T_sheet Z_sheet M_sheet; have hl_ : 0 ≤ y ∧ z < 0 := ⟨Int32.not_lt.mp c_34, Int32.not_le.mp c_38⟩; rw [if_pos hg_, if_pos hl_, if_neg (fun h => h.2 hl_), if_neg (fun h => h.2 hl_), if_neg (fun h => h.2 hl_)]; exact ⟨rfl, rfl, rfl, rfl⟩)
        · refine g_iconst C (-1) dX5_sheet_31 (by decide) ?_
          exact g_iret C ((m_sortOf v), (m_sizeOf v), (m_numbers v)) hr dX5_sheet_32 (Nat.le_of_ble_eq_true rfl) (Nat.le_of_ble_eq_true rfl) rfl (by have hn_ : ¬ seG x y z := fun h => absurd (h.2.2 (Int32.not_lt.mp c_22)) c_28; unfold R_sheet T_sheet Z_sheet M_sheet; rw [if_neg hn_, if_neg (fun h => hn_ h.1), if_neg (fun h => hn_ h.1), if_neg (fun h => hn_ h.1)]; exact ⟨rfl, rfl, rfl, rfl⟩)

