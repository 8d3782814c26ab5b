set_option maxRecDepth 100000 in
set_option maxHeartbeats 4000000 in
theorem k_X5_put (l : Launch) (D : va_G) (q : Nat → ClassId) (tt : Nat → Nat) (a : Nat → Nat) (v : MC) (x : Int32) (y : Int32) (z : Int32) (hT : ShG (m_sortOf v) (m_sizeOf v)) : MI l D q tt yX5_put wsX5_put ({ frames := 2, cells := 0, slots := 0, locals := 45 } : Room) [.ref (a 0), .int x, .int y, .int z] (mw q a v) (fun (r : Int32) (u : Nat → Int32) => r = R_put (m_sortOf v) (m_sizeOf v) x y ∧ u = M_put (m_sortOf v) (m_sizeOf v) (m_numbers v) x y z) (fun u => (mw q a ((m_s v), (m_held v), (m_aside v), (m_before v), (m_untried v), (m_isHeld v), (m_tape v), (m_taped v), (m_token v), (m_from v), (m_to v), (m_value v), (m_isWrong v), (m_heard v), (m_isMoved v), (m_rows v), (m_rowN v), (m_sortOf v), (m_sizeOf v), u, (m_holdsWhat v), (m_holdsWhich v), (m_holdsMany v), (m_bodies v), (m_ran v), (m_actKind v), (m_actN v), (m_actA v), (m_isParted v)))) 0 0 := by
  refine MI.of RX5 [(0, .ref (a 0)), (1, .int x), (2, .int y), (3, .int z)] (by decide) rfl rfl (Nat.le_of_ble_eq_true rfl) rfl ?_
  intro p e s m args below meth c A C hr hnm
  have w_0 : ∀ w ∈ u_ws RX5 TX5 29, w ∈ wsX5_put := by decide +kernel
  have w_1 : Cond.fieldLink RX5 38 (TX5 17).1 (TX5 17).2.1 (TX5 17).2.2.1 ∈ wsX5_put := by decide +kernel
  have w_2 : Cond.fieldLink RX5 41 (TX5 18).1 (TX5 18).2.1 (TX5 18).2.2.1 ∈ wsX5_put := by decide +kernel
  have w_3 : Cond.fieldLink RX5 44 (TX5 19).1 (TX5 19).2.1 (TX5 19).2.2.1 ∈ wsX5_put := by decide +kernel
  refine g_iloadn C dX5_put_0 1 rfl rfl ?_
  refine g_call0i C (rd_S C (k_X5_isSheet l D q tt x ) gX5_put_X5_isSheet rfl rfl rfl 1 ok_X5_isSheet (rest := []) rfl rfl (Nat.le_of_ble_eq_true rfl) dX5_put_1 ⟨(Nat.le_of_ble_eq_true rfl), (Nat.le_of_ble_eq_true rfl)⟩ ⟨(Nat.le_of_ble_eq_true rfl), (Nat.le_of_ble_eq_true rfl)⟩) (fun _ => rfl) (fun r_1 _ h_1 => ?_)
  obtain rfl := h_1
  refine g_ifneE C 9 dX5_put_4 rfl rfl (fun c_4 => ?_) (fun c_4 => ?_)
  · obtain ⟨j, hj, ej, ec⟩ := ix_le (n := 3) (by omega) c_4
    obtain ⟨n, hn, en⟩ := (hT j (by omega)).2
    refine g_aloadn C dX5_put_9 0 rfl rfl ?_
    refine g_get C fx5 w_0 0 17 (v := .ref (a 10)) rfl (by decide) w_1 rfl dX5_put_10 ?_
    refine g_iloadn C dX5_put_13 1 rfl rfl ?_
    refine g_topci (nI j) (ej) ?_
    refine g_iald C 10 (j) (f := (m_sortOf v)) rfl rfl (by omega) (by decide) dX5_put_14 ?_
    refine g_if_ge C 21 dX5_put_15 rfl (fun c_15 => ?_) (fun c_15 => ?_)
    · refine g_iloadn C dX5_put_21 2 rfl rfl ?_
      refine g_i2l C dX5_put_22 ?_
      refine g_lconst C 0 dX5_put_23 (by decide) ?_
      refine g_aloadn C dX5_put_24 0 rfl rfl ?_
      refine g_get C fx5 w_0 0 18 (v := .ref (a 11)) rfl (by decide) w_2 rfl dX5_put_25 ?_
      refine g_iloadn C dX5_put_28 1 rfl rfl ?_
      refine g_topci (nI j) (ej) ?_
      refine g_iald C 11 (j) (f := (m_sizeOf v)) rfl rfl (by omega) (by decide) dX5_put_29 ?_
      refine g_iconst C 1 dX5_put_30 (by decide) ?_
      refine g_isub C dX5_put_31 ?_
      refine g_i2l C dX5_put_32 ?_
      refine g_call0i C (rd_S C (k_isIn32 l D q tt (y) 0 ((m_sizeOf v) j - 1) 0 (((((m_sizeOf v) j) - 1)).toInt64) (by first | rfl | decide) rfl) gX5_put_X5_isIn rfl rfl rfl 3 ok_X5_isIn (rest := []) rfl rfl (Nat.le_of_ble_eq_true rfl) dX5_put_33 ⟨(Nat.le_of_ble_eq_true rfl), (Nat.le_of_ble_eq_true rfl)⟩ ⟨(Nat.le_of_ble_eq_true rfl), (Nat.le_of_ble_eq_true rfl)⟩) (fun _ => rfl) (fun r_33 _ h_33 => ?_)
      obtain rfl := h_33
      refine g_ifneE C 42 dX5_put_36 rfl rfl (fun c_36 => ?_) (fun c_36 => ?_)
      · have hz_ : 0 ≤ y ∧ y < nI n := by have h_ := c_36; rw [en] at h_; exact ⟨h_.1, (le_pred2 (by omega)).mp h_.2⟩
        obtain ⟨i, hi, ei, ei2⟩ := ix_lt (by omega) hz_
        refine g_aloadn C dX5_put_42 0 rfl rfl ?_
        refine g_get C fx5 w_0 0 19 (v := .ref (a 12)) rfl (by decide) w_3 rfl dX5_put_43 ?_
        refine g_bipush C 40 dX5_put_46 (by decide) ?_
        refine g_iloadn C dX5_put_48 1 rfl rfl ?_
        refine g_topci (nI j) (ej) ?_
        refine g_imul C dX5_put_49 ?_
        refine g_iloadn C dX5_put_50 2 rfl rfl ?_
        refine g_topci (nI i) (ei) ?_
        refine g_iadd C dX5_put_51 ?_
        refine g_aloadn C dX5_put_52 0 rfl rfl ?_
        refine g_get C fx5 w_0 0 17 (v := .ref (a 10)) rfl (by decide) w_1 rfl dX5_put_53 ?_
        refine g_iloadn C dX5_put_56 1 rfl rfl ?_
        refine g_topci (nI j) (ej) ?_
        refine g_iald C 10 (j) (f := (m_sortOf v)) rfl rfl (by omega) (by decide) dX5_put_57 ?_
        refine g_if_ne C 66 dX5_put_58 rfl (fun c_58 => ?_) (fun c_58 => ?_)
        · refine g_aloadn C dX5_put_66 0 rfl rfl ?_
          refine g_get C fx5 w_0 0 17 (v := .ref (a 10)) rfl (by decide) w_1 rfl dX5_put_67 ?_
          refine g_iloadn C dX5_put_70 1 rfl rfl ?_
          refine g_topci (nI j) (ej) ?_
          refine g_iald C 10 (j) (f := (m_sortOf v)) rfl rfl (by omega) (by decide) dX5_put_71 ?_
          refine g_iconst C 1 dX5_put_72 (by decide) ?_
          refine g_icmp_ne C 81 dX5_put_73 rfl (fun c_73 => ?_) (fun c_73 => ?_)
          · refine g_iloadn C dX5_put_81 3 rfl rfl ?_
            refine g_iast C 12 (((40 * j) + i)) (f := (m_numbers v)) rfl (ix_add (ix_mul rfl rfl) rfl) (by omega) (by decide) dX5_put_82 (mw q a ((m_s v), (m_held v), (m_aside v), (m_before v), (m_untried v), (m_isHeld v), (m_tape v), (m_taped v), (m_token v), (m_from v), (m_to v), (m_value v), (m_isWrong v), (m_heard v), (m_isMoved v), (m_rows v), (m_rowN v), (m_sortOf v), (m_sizeOf v), (upd (m_numbers v) ((40 * j) + i) z), (m_holdsWhat v), (m_holdsWhich v), (m_holdsMany v), (m_bodies v), (m_ran v), (m_actKind v), (m_actN v), (m_actA v), (m_isParted v))) rfl ?_
            refine g_iconst C 1 dX5_put_83 (by decide) ?_
            exact g_iret C (upd (m_numbers v) ((40 * j) + i) z) hr dX5_put_84 (Nat.le_of_ble_eq_true rfl) (Nat.le_of_ble_eq_true rfl) rfl (by
                have hl_ : ¬ (m_sortOf v) x.toNatClampNeg < 0 := by rw [ec]; exact Int32.not_lt.mpr c_15
                have hq_ : 0 ≤ y ∧ y ≤ (m_sizeOf v) x.toNatClampNeg - 1 := by rw [ec]; exact c_36
                have hg_ : puG (m_sortOf v) (m_sizeOf v) x y := ⟨c_4, hl_, hq_⟩
                unfold R_put M_put; rw [if_pos c_4, if_pos hg_, if_neg hl_, if_pos hq_, ec, ei2]; unfold nwS; rw [if_neg c_58, if_neg c_73]; exact ⟨rfl, rfl⟩)
          · refine g_iloadn C dX5_put_76 3 rfl rfl ?_
            refine g_i2s C dX5_put_77 ?_
            refine g_goto C 82 dX5_put_78 rfl ?_
            refine g_iast C 12 (((40 * j) + i)) (f := (m_numbers v)) rfl (ix_add (ix_mul rfl rfl) rfl) (by omega) (by decide) dX5_put_82 (mw q a ((m_s v), (m_held v), (m_aside v), (m_before v), (m_untried v), (m_isHeld v), (m_tape v), (m_taped v), (m_token v), (m_from v), (m_to v), (m_value v), (m_isWrong v), (m_heard v), (m_isMoved v), (m_rows v), (m_rowN v), (m_sortOf v), (m_sizeOf v), (upd (m_numbers v) ((40 * j) + i) ((z).toInt16.toInt32)), (m_holdsWhat v), (m_holdsWhich v), (m_holdsMany v), (m_bodies v), (m_ran v), (m_actKind v), (m_actN v), (m_actA v), (m_isParted v))) rfl ?_
            refine g_iconst C 1 dX5_put_83 (by decide) ?_
            exact g_iret C (upd (m_numbers v) ((40 * j) + i) ((z).toInt16.toInt32)) hr dX5_put_84 (Nat.le_of_ble_eq_true rfl) (Nat.le_of_ble_eq_true rfl) rfl (by
                have hl_ : ¬ (m_sortOf v) x.toNatClampNeg < 0 := by rw [ec]; exact Int32.not_lt.mpr c_15
                have hq_ : 0 ≤ y ∧ y ≤ (m_sizeOf v) x.toNatClampNeg - 1 := by rw [ec]; exact c_36
                have hg_ : puG (m_sortOf v) (m_sizeOf v) x y := ⟨c_4, hl_, hq_⟩
                unfold R_put M_put; rw [if_pos c_4, if_pos hg_, if_neg hl_, if_pos hq_, ec, ei2]; unfold nwS; rw [if_neg c_58, if_pos c_73]; exact ⟨rfl, rfl⟩)
        · refine g_iloadn C dX5_put_61 3 rfl rfl ?_
          refine g_i2b C dX5_put_62 ?_
          refine g_goto C 82 dX5_put_63 rfl ?_
          refine g_iast C 12 (((40 * j) + i)) (f := (m_numbers v)) rfl (ix_add (ix_mul rfl rfl) rfl) (by omega) (by decide) dX5_put_82 (mw q a ((m_s v), (m_held v), (m_aside v), (m_before v), (m_untried v), (m_isHeld v), (m_tape v), (m_taped v), (m_token v), (m_from v), (m_to v), (m_value v), (m_isWrong v), (m_heard v), (m_isMoved v), (m_rows v), (m_rowN v), (m_sortOf v), (m_sizeOf v), (upd (m_numbers v) ((40 * j) + i) ((z).toInt8.toInt32)), (m_holdsWhat v), (m_holdsWhich v), (m_holdsMany v), (m_bodies v), (m_ran v), (m_actKind v), (m_actN v), (m_actA v), (m_isParted v))) rfl ?_
          refine g_iconst C 1 dX5_put_83 (by decide) ?_
          exact g_iret C (upd (m_numbers v) ((40 * j) + i) ((z).toInt8.toInt32)) hr dX5_put_84 (Nat.le_of_ble_eq_true rfl) (Nat.le_of_ble_eq_true rfl) rfl (by
              have hl_ : ¬ (m_sortOf v) x.toNatClampNeg < 0 := by rw [ec]; exact Int32.not_lt.mpr c_15
              have hq_ : 0 ≤ y ∧ y ≤ (m_sizeOf v) x.toNatClampNeg - 1 := by rw [ec]; exact c_36
              have hg_ : puG (m_sortOf v) (m_sizeOf v) x y := ⟨c_4, hl_, hq_⟩
              unfold R_put M_put; rw [if_pos c_4, if_pos hg_, if_neg hl_, if_pos hq_, ec, ei2]; unfold nwS; rw [if_pos c_58]; exact ⟨rfl, rfl⟩)
      · refine g_bipush C (-12) dX5_put_39 (by decide) ?_
        exact g_iret C (m_numbers v) hr dX5_put_41 (Nat.le_of_ble_eq_true rfl) (Nat.le_of_ble_eq_true rfl) rfl (by
            have hl_ : ¬ (m_sortOf v) x.toNatClampNeg < 0 := by rw [ec]; exact Int32.not_lt.mpr c_15
            have hq_ : ¬ (0 ≤ y ∧ y ≤ (m_sizeOf v) x.toNatClampNeg - 1) := by rw [ec]; exact c_36
            have hn_ : ¬ puG (m_sortOf v) (m_sizeOf v) x y := fun h => hq_ h.2.2
            unfold R_put M_put; rw [if_pos c_4, if_neg hn_, if_neg hl_, if_neg hq_]; exact ⟨rfl, rfl⟩)
    · refine g_bipush C (-11) dX5_put_18 (by decide) ?_
      exact g_iret C (m_numbers v) hr dX5_put_20 (Nat.le_of_ble_eq_true rfl) (Nat.le_of_ble_eq_true rfl) rfl (by
          have hl_ : (m_sortOf v) x.toNatClampNeg < 0 := by rw [ec]; exact Int32.not_le.mp c_15
          have hn_ : ¬ puG (m_sortOf v) (m_sizeOf v) x y := fun h => h.2.1 hl_
          unfold R_put M_put; rw [if_pos c_4, if_neg hn_, if_pos hl_]; exact ⟨rfl, rfl⟩)
  · refine g_iconst C (-1) dX5_put_7 (by decide) ?_
    exact g_iret C (m_numbers v) hr dX5_put_8 (Nat.le_of_ble_eq_true rfl) (Nat.le_of_ble_eq_true rfl) rfl (by have hn_ : ¬ puG (m_sortOf v) (m_sizeOf v) x y := fun h => c_4 h.1; unfold R_put M_put; rw [if_neg c_4, if_neg hn_]; exact ⟨rfl, rfl⟩)

