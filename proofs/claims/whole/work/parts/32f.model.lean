set_option maxRecDepth 100000 in
set_option maxHeartbeats 4000000 in
theorem k_X5_lacks (l : Launch) (D : va_G) (q : Nat → ClassId) (tt : Nat → Nat) (a : Nat → Nat) (v : MC) (j : Nat) (y : Int32) (hj : j < 4) : MI l D q tt yX5_lacks wsX5_lacks ({ frames := 0, cells := 0, slots := 0, locals := 0 } : Room) [.ref (a 0), .int (nI j), .int y] (mw q a v) (fun (r : Int32) (u : Unit) => r = (laS (m_sortOf v) j y)) (fun (_ : Unit) => (mw q a v)) 0 0 := by
  refine MI.of RX5 [(0, .ref (a 0)), (1, .int (nI j)), (2, .int y)] (by decide) rfl rfl (Nat.le_of_ble_eq_true rfl) rfl ?_
  intro p e s m args below meth c A C hr hnm
  have w_0 : ∀ w ∈ u_ws RX5 TX5 29, w ∈ wsX5_lacks := by decide +kernel
  have w_1 : Cond.fieldLink RX5 38 (TX5 17).1 (TX5 17).2.1 (TX5 17).2.2.1 ∈ wsX5_lacks := by decide +kernel
  refine g_aloadn C dX5_lacks_0 0 rfl rfl ?_
  refine g_get C fx5 w_0 0 17 (v := .ref (a 10)) rfl (by decide) w_1 rfl dX5_lacks_1 ?_
  refine g_iloadn C dX5_lacks_4 1 rfl rfl ?_
  refine g_iald C 10 (j) (f := (m_sortOf v)) rfl rfl (by omega) (by decide) dX5_lacks_5 ?_
  refine g_if_ge C 14 dX5_lacks_6 rfl (fun c_6 => ?_) (fun c_6 => ?_)
  · refine g_aloadn C dX5_lacks_14 0 rfl rfl ?_
    refine g_get C fx5 w_0 0 17 (v := .ref (a 10)) rfl (by decide) w_1 rfl dX5_lacks_15 ?_
    refine g_iloadn C dX5_lacks_18 1 rfl rfl ?_
    refine g_iald C 10 (j) (f := (m_sortOf v)) rfl rfl (by omega) (by decide) dX5_lacks_19 ?_
    refine g_iloadn C dX5_lacks_20 2 rfl rfl ?_
    refine g_icmp_eq C 29 dX5_lacks_21 rfl (fun c_21 => ?_) (fun c_21 => ?_)
    · refine g_iconst C 0 dX5_lacks_29 (by decide) ?_
      exact g_iret C () hr dX5_lacks_30 (Nat.le_of_ble_eq_true rfl) (Nat.le_of_ble_eq_true rfl) rfl (by unfold laS; rw [if_neg (Int32.not_lt.mpr c_6), if_neg (Decidable.not_not.mpr c_21)])
    · refine g_bipush C (-13) dX5_lacks_24 (by decide) ?_
      refine g_goto C 30 dX5_lacks_26 rfl ?_
      exact g_iret C () hr dX5_lacks_30 (Nat.le_of_ble_eq_true rfl) (Nat.le_of_ble_eq_true rfl) rfl (by unfold laS; rw [if_neg (Int32.not_lt.mpr c_6), if_pos c_21])
  · refine g_bipush C (-11) dX5_lacks_9 (by decide) ?_
    refine g_goto C 30 dX5_lacks_11 rfl ?_
    exact g_iret C () hr dX5_lacks_30 (Nat.le_of_ble_eq_true rfl) (Nat.le_of_ble_eq_true rfl) rfl (by unfold laS; rw [if_pos (Int32.not_le.mp c_6)])

set_option maxRecDepth 100000 in
set_option maxHeartbeats 4000000 in
theorem k_X5_item (l : Launch) (D : va_G) (q : Nat → ClassId) (tt : Nat → Nat) (a : Nat → Nat) (v : MC) (x : Int32) (y : Int32) (z : Int32) (hT : ShG (m_sortOf v) (m_sizeOf v)) : MI l D q tt yX5_item wsX5_item ({ frames := 2, cells := 0, slots := 0, locals := 45 } : Room) [.ref (a 0), .int x, .int y, .int z] (mw q a v) (fun (r : Int32) (u : Unit) => r = R_item (m_sortOf v) (m_sizeOf v) (m_numbers v) x y z) (fun (_ : Unit) => (mw q a v)) 0 0 := by
  refine MI.of RX5 [(0, .ref (a 0)), (1, .int x), (2, .int y), (3, .int z)] (by decide) rfl rfl (Nat.le_of_ble_eq_true rfl) rfl ?_
  intro p e s m args below meth c A C hr hnm
  have w_0 : Cond.constantLong RX5 152 (3) ∈ wsX5_item := by decide +kernel
  have w_1 : ∀ w ∈ u_ws RX5 TX5 29, w ∈ wsX5_item := by decide +kernel
  have w_2 : Cond.fieldLink RX5 41 (TX5 18).1 (TX5 18).2.1 (TX5 18).2.2.1 ∈ wsX5_item := by decide +kernel
  have w_3 : Cond.fieldLink RX5 44 (TX5 19).1 (TX5 19).2.1 (TX5 19).2.2.1 ∈ wsX5_item := by decide +kernel
  refine g_iloadn C dX5_item_0 1 rfl rfl ?_
  refine g_call0i C (rd_S C (k_X5_isSheet l D q tt x ) gX5_item_X5_isSheet rfl rfl rfl 1 ok_X5_isSheet (rest := []) rfl rfl (Nat.le_of_ble_eq_true rfl) dX5_item_1 ⟨(Nat.le_of_ble_eq_true rfl), (Nat.le_of_ble_eq_true rfl)⟩ ⟨(Nat.le_of_ble_eq_true rfl), (Nat.le_of_ble_eq_true rfl)⟩) (fun _ => rfl) (fun r_1 _ h_1 => ?_)
  obtain rfl := h_1
  refine g_ifeqE C 19 dX5_item_4 rfl rfl (fun c_4 => ?_) (fun c_4 => ?_)
  · refine g_iconst C (-1) dX5_item_19 (by decide) ?_
    exact g_iret C () hr dX5_item_20 (Nat.le_of_ble_eq_true rfl) (Nat.le_of_ble_eq_true rfl) rfl (by have hn_ : ¬ ((0 ≤ x ∧ x ≤ 3) ∧ (0 ≤ y ∧ y ≤ 3)) := fun h => c_4 h.1; unfold R_item; rw [if_neg hn_])
  · refine g_iloadn C dX5_item_7 2 rfl rfl ?_
    refine g_i2l C dX5_item_8 ?_
    refine g_lconst C 0 dX5_item_9 (by decide) ?_
    refine g_ldc2 C (3) dX5_item_10 w_0 ?_
    refine g_call0i C (rd_S C (k_isIn32 l D q tt (y) 0 (3) 0 (3) (by first | rfl | decide) (by first | rfl | decide)) gX5_item_X5_isIn rfl rfl rfl 3 ok_X5_isIn (rest := []) rfl rfl (Nat.le_of_ble_eq_true rfl) dX5_item_13 ⟨(Nat.le_of_ble_eq_true rfl), (Nat.le_of_ble_eq_true rfl)⟩ ⟨(Nat.le_of_ble_eq_true rfl), (Nat.le_of_ble_eq_true rfl)⟩) (fun _ => rfl) (fun r_13 _ h_13 => ?_)
    obtain rfl := h_13
    refine g_ifneE C 21 dX5_item_16 rfl rfl (fun c_16 => ?_) (fun c_16 => ?_)
    · obtain ⟨j, hj, ej, ec⟩ := ix_le (n := 3) (by omega) c_4
      obtain ⟨n, hn, en⟩ := (hT j (by omega)).2
      refine g_aloadn C dX5_item_21 0 rfl rfl ?_
      refine g_iloadn C dX5_item_22 1 rfl rfl ?_
      refine g_topci (nI j) (ej) ?_
      refine g_iloadn C dX5_item_23 2 rfl rfl ?_
      refine g_callAi C (rd_V C (k_X5_lacks l D q tt a v j y (by first | assumption | omega)) gX5_item_X5_lacks rfl rfl rfl 2 ok_X5_lacks rfl 0 rfl rfl (rest := []) rfl rfl (Nat.le_of_ble_eq_true rfl) dX5_item_24 ⟨(Nat.le_of_ble_eq_true rfl), (Nat.le_of_ble_eq_true rfl)⟩ ⟨(Nat.le_of_ble_eq_true rfl), (Nat.le_of_ble_eq_true rfl)⟩) (fun r_24 _ h_24 => ?_)
      obtain rfl := h_24
      refine g_if_eq C 37 dX5_item_27 rfl (fun c_27 => ?_) (fun c_27 => ?_)
      · refine g_iloadn C dX5_item_37 3 rfl rfl ?_
        refine g_i2l C dX5_item_38 ?_
        refine g_lconst C 0 dX5_item_39 (by decide) ?_
        refine g_aloadn C dX5_item_40 0 rfl rfl ?_
        refine g_get C fx5 w_1 0 18 (v := .ref (a 11)) rfl (by decide) w_2 rfl dX5_item_41 ?_
        refine g_iloadn C dX5_item_44 1 rfl rfl ?_
        refine g_topci (nI j) (ej) ?_
        refine g_iald C 11 (j) (f := (m_sizeOf v)) rfl rfl (by omega) (by decide) dX5_item_45 ?_
        refine g_iconst C 1 dX5_item_46 (by decide) ?_
        refine g_isub C dX5_item_47 ?_
        refine g_i2l C dX5_item_48 ?_
        refine g_call0i C (rd_S C (k_isIn32 l D q tt (z) 0 ((m_sizeOf v) j - 1) 0 (((((m_sizeOf v) j) - 1)).toInt64) (by first | rfl | decide) rfl) gX5_item_X5_isIn rfl rfl rfl 3 ok_X5_isIn (rest := []) rfl rfl (Nat.le_of_ble_eq_true rfl) dX5_item_49 ⟨(Nat.le_of_ble_eq_true rfl), (Nat.le_of_ble_eq_true rfl)⟩ ⟨(Nat.le_of_ble_eq_true rfl), (Nat.le_of_ble_eq_true rfl)⟩) (fun _ => rfl) (fun r_49 _ h_49 => ?_)
        obtain rfl := h_49
        refine g_ifeqE C 69 dX5_item_52 rfl rfl (fun c_52 => ?_) (fun c_52 => ?_)
        · refine g_bipush C (-12) dX5_item_69 (by decide) ?_
          exact g_iret C () hr dX5_item_71 (Nat.le_of_ble_eq_true rfl) (Nat.le_of_ble_eq_true rfl) rfl (by unfold R_item; rw [if_pos ⟨c_4, c_16⟩, ec, if_neg (Decidable.not_not.mpr c_27), if_neg c_52])
        · have hz_ : 0 ≤ z ∧ z < nI n := by have h_ := c_52; rw [en] at h_; exact ⟨h_.1, (le_pred2 (by omega)).mp h_.2⟩
          obtain ⟨i, hi, ei, ei2⟩ := ix_lt (by omega) hz_
          refine g_aloadn C dX5_item_55 0 rfl rfl ?_
          refine g_get C fx5 w_1 0 19 (v := .ref (a 12)) rfl (by decide) w_3 rfl dX5_item_56 ?_
          refine g_bipush C 40 dX5_item_59 (by decide) ?_
          refine g_iloadn C dX5_item_61 1 rfl rfl ?_
          refine g_topci (nI j) (ej) ?_
          refine g_imul C dX5_item_62 ?_
          refine g_iloadn C dX5_item_63 3 rfl rfl ?_
          refine g_topci (nI i) (ei) ?_
          refine g_iadd C dX5_item_64 ?_
          refine g_iald C 12 (((40 * j) + i)) (f := (m_numbers v)) rfl (ix_add (ix_mul rfl rfl) rfl) (by omega) (by decide) dX5_item_65 ?_
          refine g_goto C 71 dX5_item_66 rfl ?_
          exact g_iret C () hr dX5_item_71 (Nat.le_of_ble_eq_true rfl) (Nat.le_of_ble_eq_true rfl) rfl (by unfold R_item; rw [if_pos ⟨c_4, c_16⟩, ec, if_neg (Decidable.not_not.mpr c_27), if_pos c_52, ei2])
      · refine g_aloadn C dX5_item_30 0 rfl rfl ?_
        refine g_iloadn C dX5_item_31 1 rfl rfl ?_
        refine g_topci (nI j) (ej) ?_
        refine g_iloadn C dX5_item_32 2 rfl rfl ?_
        refine g_callAi C (rd_V C (k_X5_lacks l D q tt a v j y (by first | assumption | omega)) gX5_item_X5_lacks rfl rfl rfl 2 ok_X5_lacks rfl 0 rfl rfl (rest := []) rfl rfl (Nat.le_of_ble_eq_true rfl) dX5_item_33 ⟨(Nat.le_of_ble_eq_true rfl), (Nat.le_of_ble_eq_true rfl)⟩ ⟨(Nat.le_of_ble_eq_true rfl), (Nat.le_of_ble_eq_true rfl)⟩) (fun r_33 _ h_33 => ?_)
        obtain rfl := h_33
        exact g_iret C () hr dX5_item_36 (Nat.le_of_ble_eq_true rfl) (Nat.le_of_ble_eq_true rfl) rfl (by unfold R_item; rw [if_pos ⟨c_4, c_16⟩, ec, if_pos c_27])
    · refine g_iconst C (-1) dX5_item_19 (by decide) ?_
      exact g_iret C () hr dX5_item_20 (Nat.le_of_ble_eq_true rfl) (Nat.le_of_ble_eq_true rfl) rfl (by have hn_ : ¬ ((0 ≤ x ∧ x ≤ 3) ∧ (0 ≤ y ∧ y ≤ 3)) := fun h => c_16 h.2; unfold R_item; rw [if_neg hn_])

