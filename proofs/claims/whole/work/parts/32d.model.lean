set_option maxRecDepth 100000 in
set_option maxHeartbeats 4000000 in
theorem k_X5_shelf (l : Launch) (D : va_G) (q : Nat → ClassId) (tt : Nat → Nat) (a : Nat → Nat) (v : MC) (N : Nat) (x : Int32) (y : Int32) (z : Int32) (hG : Gd (m_s v) N) : MI l D q tt yX5_shelf wsX5_shelf ({ frames := 2, cells := 0, slots := 0, locals := 45 } : Room) [.ref (a 0), .int x, .int y, .int z] (mw q a v) (fun (r : Int32) (u : (Nat → Int32) × (Nat → Int32) × (Nat → Int32)) => r = R_shelf (m_s v) x y z ∧ u.1 = W_shelf (m_s v) (m_sortOf v) (m_holdsWhat v) x y z ∧ u.2.1 = H_shelf (m_s v) (m_sortOf v) (m_holdsWhich v) x y z ∧ u.2.2 = M_shelf (m_s v) (m_sortOf v) (m_sizeOf v) (m_holdsMany v) x y z) (fun u => (mw q a ((m_s v), (m_held v), (m_aside v), (m_before v), (m_untried v), (m_isHeld v), (m_tape v), (m_taped v), (m_token v), (m_from v), (m_to v), (m_value v), (m_isWrong v), (m_heard v), (m_isMoved v), (m_rows v), (m_rowN v), (m_sortOf v), (m_sizeOf v), (m_numbers v), u.1, u.2.1, u.2.2, (m_bodies v), (m_ran v), (m_actKind v), (m_actN v), (m_actA v), (m_isParted v)))) 0 0 := by
  refine MI.of RX5 [(0, .ref (a 0)), (1, .int x), (2, .int y), (3, .int z)] (by decide) rfl rfl (Nat.le_of_ble_eq_true rfl) rfl ?_
  intro p e s m args below meth c A C hr hnm
  have w_0 : Cond.constantLong RX5 181 (2) ∈ wsX5_shelf := by decide +kernel
  have w_1 : ∀ w ∈ u_ws RX5 TX5 29, w ∈ wsX5_shelf := by decide +kernel
  have w_2 : Cond.fieldLink RX5 47 (TX5 20).1 (TX5 20).2.1 (TX5 20).2.2.1 ∈ wsX5_shelf := by decide +kernel
  have w_3 : Cond.fieldLink RX5 50 (TX5 21).1 (TX5 21).2.1 (TX5 21).2.2.1 ∈ wsX5_shelf := by decide +kernel
  have w_4 : Cond.fieldLink RX5 53 (TX5 22).1 (TX5 22).2.1 (TX5 22).2.2.1 ∈ wsX5_shelf := by decide +kernel
  have w_5 : Cond.fieldLink RX5 38 (TX5 17).1 (TX5 17).2.1 (TX5 17).2.2.1 ∈ wsX5_shelf := by decide +kernel
  have w_6 : Cond.fieldLink RX5 41 (TX5 18).1 (TX5 18).2.1 (TX5 18).2.2.1 ∈ wsX5_shelf := by decide +kernel
  have h8 := hG.le
  refine g_iloadn C dX5_shelf_0 1 rfl rfl ?_
  refine g_call0i C (rd_S C (k_X5_isShelf l D q tt x ) gX5_shelf_X5_isShelf rfl rfl rfl 1 ok_X5_isShelf (rest := []) rfl rfl (Nat.le_of_ble_eq_true rfl) dX5_shelf_1 ⟨(Nat.le_of_ble_eq_true rfl), (Nat.le_of_ble_eq_true rfl)⟩ ⟨(Nat.le_of_ble_eq_true rfl), (Nat.le_of_ble_eq_true rfl)⟩) (fun _ => rfl) (fun r_1 _ h_1 => ?_)
  obtain rfl := h_1
  refine g_ifeqE C 43 dX5_shelf_4 rfl rfl (fun c_4 => ?_) (fun c_4 => ?_)
  · refine g_iconst C (-1) dX5_shelf_43 (by decide) ?_
    exact g_iret C ((m_holdsWhat v), (m_holdsWhich v), (m_holdsMany v)) hr dX5_shelf_44 (Nat.le_of_ble_eq_true rfl) (Nat.le_of_ble_eq_true rfl) rfl (by have hn_ : ¬ shG (m_s v) x y z := fun h => c_4 h.1; unfold R_shelf W_shelf H_shelf M_shelf; rw [if_neg hn_, if_neg hn_, if_neg hn_, if_neg hn_]; exact ⟨rfl, rfl, rfl, rfl⟩)
  · refine g_iloadn C dX5_shelf_7 2 rfl rfl ?_
    refine g_i2l C dX5_shelf_8 ?_
    refine g_lconst C 0 dX5_shelf_9 (by decide) ?_
    refine g_ldc2 C (2) dX5_shelf_10 w_0 ?_
    refine g_call0i C (rd_S C (k_isIn32 l D q tt (y) 0 (2) 0 (2) (by first | rfl | decide) (by first | rfl | decide)) gX5_shelf_X5_isIn rfl rfl rfl 3 ok_X5_isIn (rest := []) rfl rfl (Nat.le_of_ble_eq_true rfl) dX5_shelf_13 ⟨(Nat.le_of_ble_eq_true rfl), (Nat.le_of_ble_eq_true rfl)⟩ ⟨(Nat.le_of_ble_eq_true rfl), (Nat.le_of_ble_eq_true rfl)⟩) (fun _ => rfl) (fun r_13 _ h_13 => ?_)
    obtain rfl := h_13
    refine g_ifeqE C 43 dX5_shelf_16 rfl rfl (fun c_16 => ?_) (fun c_16 => ?_)
    · refine g_iconst C (-1) dX5_shelf_43 (by decide) ?_
      exact g_iret C ((m_holdsWhat v), (m_holdsWhich v), (m_holdsMany v)) hr dX5_shelf_44 (Nat.le_of_ble_eq_true rfl) (Nat.le_of_ble_eq_true rfl) rfl (by have hn_ : ¬ shG (m_s v) x y z := fun h => c_16 h.2.1; unfold R_shelf W_shelf H_shelf M_shelf; rw [if_neg hn_, if_neg hn_, if_neg hn_, if_neg hn_]; exact ⟨rfl, rfl, rfl, rfl⟩)
    · refine g_iloadn C dX5_shelf_19 2 rfl rfl ?_
      refine g_if_ne C 31 dX5_shelf_20 rfl (fun c_20 => ?_) (fun c_20 => ?_)
      · refine g_iloadn C dX5_shelf_31 2 rfl rfl ?_
        refine g_iconst C 1 dX5_shelf_32 (by decide) ?_
        refine g_icmp_ne C 45 dX5_shelf_33 rfl (fun c_33 => ?_) (fun c_33 => ?_)
        · obtain ⟨j, hj, ej, ec⟩ := ix_le (n := 3) (by omega) c_4
          refine g_iloadn C dX5_shelf_45 2 rfl rfl ?_
          refine g_iconst C 1 dX5_shelf_46 (by decide) ?_
          refine g_icmp_ne C 63 dX5_shelf_47 rfl (fun c_47 => ?_) (fun c_47 => ?_)
          · refine g_iconst C 0 dX5_shelf_63 (by decide) ?_
            refine g_istore C [(4, .int 0), (0, .ref (a 0)), (1, .int x), (2, .int y), (3, .int z)] dX5_shelf_64 (by decide) rfl ?_
            refine g_aloadn C dX5_shelf_66 1 rfl rfl ?_
            refine g_get C fx5 w_1 0 20 (v := .ref (a 13)) rfl (by decide) w_2 rfl dX5_shelf_67 ?_
            refine g_iloadn C dX5_shelf_70 2 rfl rfl ?_
            refine g_topci (nI j) (ej) ?_
            refine g_iloadn C dX5_shelf_71 3 rfl rfl ?_
            refine g_if_ne C 79 dX5_shelf_72 rfl (fun c_72 => ?_) (fun c_72 => ?_)
            · refine g_iload C dX5_shelf_79 0 rfl ?_
              refine g_if_eqT C 88 dX5_shelf_81 rfl (by decide) ?_
              refine g_iconst C 0 dX5_shelf_88 (by decide) ?_
              refine g_iast C 13 (j) (f := (m_holdsWhat v)) rfl rfl (by omega) (by decide) dX5_shelf_89 (mw q a ((m_s v), (m_held v), (m_aside v), (m_before v), (m_untried v), (m_isHeld v), (m_tape v), (m_taped v), (m_token v), (m_from v), (m_to v), (m_value v), (m_isWrong v), (m_heard v), (m_isMoved v), (m_rows v), (m_rowN v), (m_sortOf v), (m_sizeOf v), (m_numbers v), (upd (m_holdsWhat v) j 0), (m_holdsWhich v), (m_holdsMany v), (m_bodies v), (m_ran v), (m_actKind v), (m_actN v), (m_actA v), (m_isParted v))) rfl ?_
              refine g_aloadn C dX5_shelf_90 1 rfl rfl ?_
              refine g_get C fx5 w_1 0 21 (v := .ref (a 14)) rfl (by decide) w_3 rfl dX5_shelf_91 ?_
              refine g_iloadn C dX5_shelf_94 2 rfl rfl ?_
              refine g_topci (nI j) (ej) ?_
              refine g_iloadn C dX5_shelf_95 3 rfl rfl ?_
              refine g_if_ne C 103 dX5_shelf_96 rfl (fun c_96 => ?_) (fun c_96 => ?_)
              · refine g_iload C dX5_shelf_103 0 rfl ?_
                refine g_if_eqT C 117 dX5_shelf_105 rfl (by decide) ?_
                refine g_iconst C 0 dX5_shelf_117 (by decide) ?_
                refine g_iast C 14 (j) (f := (m_holdsWhich v)) rfl rfl (by omega) (by decide) dX5_shelf_118 (mw q a ((m_s v), (m_held v), (m_aside v), (m_before v), (m_untried v), (m_isHeld v), (m_tape v), (m_taped v), (m_token v), (m_from v), (m_to v), (m_value v), (m_isWrong v), (m_heard v), (m_isMoved v), (m_rows v), (m_rowN v), (m_sortOf v), (m_sizeOf v), (m_numbers v), (upd (m_holdsWhat v) j 0), (upd (m_holdsWhich v) j 0), (m_holdsMany v), (m_bodies v), (m_ran v), (m_actKind v), (m_actN v), (m_actA v), (m_isParted v))) rfl ?_
                refine g_aloadn C dX5_shelf_119 1 rfl rfl ?_
                refine g_get C fx5 w_1 0 22 (v := .ref (a 15)) rfl (by decide) w_4 rfl dX5_shelf_120 ?_
                refine g_iloadn C dX5_shelf_123 2 rfl rfl ?_
                refine g_topci (nI j) (ej) ?_
                refine g_iload C dX5_shelf_124 0 rfl ?_
                refine g_if_eqT C 138 dX5_shelf_126 rfl (by decide) ?_
                refine g_iconst C 0 dX5_shelf_138 (by decide) ?_
                refine g_iast C 15 (j) (f := (m_holdsMany v)) rfl rfl (by omega) (by decide) dX5_shelf_139 (mw q a ((m_s v), (m_held v), (m_aside v), (m_before v), (m_untried v), (m_isHeld v), (m_tape v), (m_taped v), (m_token v), (m_from v), (m_to v), (m_value v), (m_isWrong v), (m_heard v), (m_isMoved v), (m_rows v), (m_rowN v), (m_sortOf v), (m_sizeOf v), (m_numbers v), (upd (m_holdsWhat v) j 0), (upd (m_holdsWhich v) j 0), (upd (m_holdsMany v) j 0), (m_bodies v), (m_ran v), (m_actKind v), (m_actN v), (m_actA v), (m_isParted v))) rfl ?_
                refine g_iconst C 1 dX5_shelf_140 (by decide) ?_
                exact g_iret C ((upd (m_holdsWhat v) j 0), (upd (m_holdsWhich v) j 0), (upd (m_holdsMany v) j 0)) hr dX5_shelf_141 (Nat.le_of_ble_eq_true rfl) (Nat.le_of_ble_eq_true rfl) rfl (by have hg_ : shG (m_s v) x y z := ⟨c_4, c_16, fun h => absurd h c_20, fun h => absurd h c_33⟩; unfold R_shelf W_shelf H_shelf M_shelf; rw [if_pos hg_, if_pos hg_, if_pos hg_, if_pos hg_, ec]; exact ⟨rfl, by rw [if_neg c_20, if_neg (fun h => c_33 h.1)], by rw [if_neg c_20, if_neg (fun h => c_33 h.1)], by rw [if_neg (fun h => c_33 h.1)]⟩)
              · exfalso
                exact c_72 c_96
            · exfalso
              exact c_20 c_72
          · exfalso
            exact c_33 c_47
        · refine g_iloadn C dX5_shelf_36 3 rfl rfl ?_
          refine g_call0i C (rd_S C (k_X5_isSheet l D q tt z ) gX5_shelf_X5_isSheet rfl rfl rfl 1 ok_X5_isSheet (rest := []) rfl rfl (Nat.le_of_ble_eq_true rfl) dX5_shelf_37 ⟨(Nat.le_of_ble_eq_true rfl), (Nat.le_of_ble_eq_true rfl)⟩ ⟨(Nat.le_of_ble_eq_true rfl), (Nat.le_of_ble_eq_true rfl)⟩) (fun _ => rfl) (fun r_37 _ h_37 => ?_)
          obtain rfl := h_37
          refine g_ifneE C 45 dX5_shelf_40 rfl rfl (fun c_40 => ?_) (fun c_40 => ?_)
          · obtain ⟨j, hj, ej, ec⟩ := ix_le (n := 3) (by omega) c_4
            obtain ⟨i, hi, ei, ei2⟩ := ix_le (n := 3) (by omega) c_40
            refine g_iloadn C dX5_shelf_45 2 rfl rfl ?_
            refine g_iconst C 1 dX5_shelf_46 (by decide) ?_
            refine g_icmp_ne C 63 dX5_shelf_47 rfl (fun c_47 => ?_) (fun c_47 => ?_)
            · exfalso
              exact c_47 c_33
            · refine g_aloadn C dX5_shelf_50 0 rfl rfl ?_
              refine g_get C fx5 w_1 0 17 (v := .ref (a 10)) rfl (by decide) w_5 rfl dX5_shelf_51 ?_
              refine g_iloadn C dX5_shelf_54 3 rfl rfl ?_
              refine g_topci (nI i) (ei) ?_
              refine g_iald C 10 (i) (f := (m_sortOf v)) rfl rfl (by omega) (by decide) dX5_shelf_55 ?_
              refine g_if_lt C 63 dX5_shelf_56 rfl (fun c_56 => ?_) (fun c_56 => ?_)
              · refine g_iconst C 0 dX5_shelf_63 (by decide) ?_
                refine g_istore C [(4, .int 0), (0, .ref (a 0)), (1, .int x), (2, .int y), (3, .int z)] dX5_shelf_64 (by decide) rfl ?_
                refine g_aloadn C dX5_shelf_66 1 rfl rfl ?_
                refine g_get C fx5 w_1 0 20 (v := .ref (a 13)) rfl (by decide) w_2 rfl dX5_shelf_67 ?_
                refine g_iloadn C dX5_shelf_70 2 rfl rfl ?_
                refine g_topci (nI j) (ej) ?_
                refine g_iloadn C dX5_shelf_71 3 rfl rfl ?_
                refine g_if_ne C 79 dX5_shelf_72 rfl (fun c_72 => ?_) (fun c_72 => ?_)
                · refine g_iload C dX5_shelf_79 0 rfl ?_
                  refine g_if_eqT C 88 dX5_shelf_81 rfl (by decide) ?_
                  refine g_iconst C 0 dX5_shelf_88 (by decide) ?_
                  refine g_iast C 13 (j) (f := (m_holdsWhat v)) rfl rfl (by omega) (by decide) dX5_shelf_89 (mw q a ((m_s v), (m_held v), (m_aside v), (m_before v), (m_untried v), (m_isHeld v), (m_tape v), (m_taped v), (m_token v), (m_from v), (m_to v), (m_value v), (m_isWrong v), (m_heard v), (m_isMoved v), (m_rows v), (m_rowN v), (m_sortOf v), (m_sizeOf v), (m_numbers v), (upd (m_holdsWhat v) j 0), (m_holdsWhich v), (m_holdsMany v), (m_bodies v), (m_ran v), (m_actKind v), (m_actN v), (m_actA v), (m_isParted v))) rfl ?_
                  refine g_aloadn C dX5_shelf_90 1 rfl rfl ?_
                  refine g_get C fx5 w_1 0 21 (v := .ref (a 14)) rfl (by decide) w_3 rfl dX5_shelf_91 ?_
                  refine g_iloadn C dX5_shelf_94 2 rfl rfl ?_
                  refine g_topci (nI j) (ej) ?_
                  refine g_iloadn C dX5_shelf_95 3 rfl rfl ?_
                  refine g_if_ne C 103 dX5_shelf_96 rfl (fun c_96 => ?_) (fun c_96 => ?_)
                  · refine g_iload C dX5_shelf_103 0 rfl ?_
                    refine g_if_eqT C 117 dX5_shelf_105 rfl (by decide) ?_
                    refine g_iconst C 0 dX5_shelf_117 (by decide) ?_
                    refine g_iast C 14 (j) (f := (m_holdsWhich v)) rfl rfl (by omega) (by decide) dX5_shelf_118 (mw q a ((m_s v), (m_held v), (m_aside v), (m_before v), (m_untried v), (m_isHeld v), (m_tape v), (m_taped v), (m_token v), (m_from v), (m_to v), (m_value v), (m_isWrong v), (m_heard v), (m_isMoved v), (m_rows v), (m_rowN v), (m_sortOf v), (m_sizeOf v), (m_numbers v), (upd (m_holdsWhat v) j 0), (upd (m_holdsWhich v) j 0), (m_holdsMany v), (m_bodies v), (m_ran v), (m_actKind v), (m_actN v), (m_actA v), (m_isParted v))) rfl ?_
                    refine g_aloadn C dX5_shelf_119 1 rfl rfl ?_
                    refine g_get C fx5 w_1 0 22 (v := .ref (a 15)) rfl (by decide) w_4 rfl dX5_shelf_120 ?_
                    refine g_iloadn C dX5_shelf_123 2 rfl rfl ?_
                    refine g_topci (nI j) (ej) ?_
                    refine g_iload C dX5_shelf_124 0 rfl ?_
                    refine g_if_eqT C 138 dX5_shelf_126 rfl (by decide) ?_
                    refine g_iconst C 0 dX5_shelf_138 (by decide) ?_
                    refine g_iast C 15 (j) (f := (m_holdsMany v)) rfl rfl (by omega) (by decide) dX5_shelf_139 (mw q a ((m_s v), (m_held v), (m_aside v), (m_before v), (m_untried v), (m_isHeld v), (m_tape v), (m_taped v), (m_token v), (m_from v), (m_to v), (m_value v), (m_isWrong v), (m_heard v), (m_isMoved v), (m_rows v), (m_rowN v), (m_sortOf v), (m_sizeOf v), (m_numbers v), (upd (m_holdsWhat v) j 0), (upd (m_holdsWhich v) j 0), (upd (m_holdsMany v) j 0), (m_bodies v), (m_ran v), (m_actKind v), (m_actN v), (m_actA v), (m_isParted v))) rfl ?_
                    refine g_iconst C 1 dX5_shelf_140 (by decide) ?_
                    exact g_iret C ((upd (m_holdsWhat v) j 0), (upd (m_holdsWhich v) j 0), (upd (m_holdsMany v) j 0)) hr dX5_shelf_141 (Nat.le_of_ble_eq_true rfl) (Nat.le_of_ble_eq_true rfl) rfl (by have hg_ : shG (m_s v) x y z := ⟨c_4, c_16, fun h => absurd h c_20, fun _ => c_40⟩; unfold R_shelf W_shelf H_shelf M_shelf; rw [if_pos hg_, if_pos hg_, if_pos hg_, if_pos hg_, ec]; exact ⟨rfl, by rw [if_neg c_20, if_neg (fun h => absurd c_56 (Int32.not_lt.mpr (by have := h.2; rw [ei2] at this; exact this)))], by rw [if_neg c_20, if_neg (fun h => absurd c_56 (Int32.not_lt.mpr (by have := h.2; rw [ei2] at this; exact this)))], by rw [if_neg (fun h => absurd c_56 (Int32.not_lt.mpr (by have := h.2; rw [ei2] at this; exact this)))]⟩)
                  · exfalso
                    exact c_72 c_96
                · exfalso
                  exact c_20 c_72
              · refine g_iconst C 1 dX5_shelf_59 (by decide) ?_
                refine g_goto C 64 dX5_shelf_60 rfl ?_
                refine g_istore C [(4, .int 1), (0, .ref (a 0)), (1, .int x), (2, .int y), (3, .int z)] dX5_shelf_64 (by decide) rfl ?_
                refine g_aloadn C dX5_shelf_66 1 rfl rfl ?_
                refine g_get C fx5 w_1 0 20 (v := .ref (a 13)) rfl (by decide) w_2 rfl dX5_shelf_67 ?_
                refine g_iloadn C dX5_shelf_70 2 rfl rfl ?_
                refine g_topci (nI j) (ej) ?_
                refine g_iloadn C dX5_shelf_71 3 rfl rfl ?_
                refine g_if_ne C 79 dX5_shelf_72 rfl (fun c_72 => ?_) (fun c_72 => ?_)
                · refine g_iload C dX5_shelf_79 0 rfl ?_
                  refine g_if_eqF C 88 dX5_shelf_81 rfl (by decide) ?_
                  refine g_iconst C 2 dX5_shelf_84 (by decide) ?_
                  refine g_goto C 89 dX5_shelf_85 rfl ?_
                  refine g_iast C 13 (j) (f := (m_holdsWhat v)) rfl rfl (by omega) (by decide) dX5_shelf_89 (mw q a ((m_s v), (m_held v), (m_aside v), (m_before v), (m_untried v), (m_isHeld v), (m_tape v), (m_taped v), (m_token v), (m_from v), (m_to v), (m_value v), (m_isWrong v), (m_heard v), (m_isMoved v), (m_rows v), (m_rowN v), (m_sortOf v), (m_sizeOf v), (m_numbers v), (upd (m_holdsWhat v) j 2), (m_holdsWhich v), (m_holdsMany v), (m_bodies v), (m_ran v), (m_actKind v), (m_actN v), (m_actA v), (m_isParted v))) rfl ?_
                  refine g_aloadn C dX5_shelf_90 1 rfl rfl ?_
                  refine g_get C fx5 w_1 0 21 (v := .ref (a 14)) rfl (by decide) w_3 rfl dX5_shelf_91 ?_
                  refine g_iloadn C dX5_shelf_94 2 rfl rfl ?_
                  refine g_topci (nI j) (ej) ?_
                  refine g_iloadn C dX5_shelf_95 3 rfl rfl ?_
                  refine g_if_ne C 103 dX5_shelf_96 rfl (fun c_96 => ?_) (fun c_96 => ?_)
                  · refine g_iload C dX5_shelf_103 0 rfl ?_
                    refine g_if_eqF C 117 dX5_shelf_105 rfl (by decide) ?_
                    refine g_aloadn C dX5_shelf_108 1 rfl rfl ?_
                    refine g_get C fx5 w_1 0 17 (v := .ref (a 10)) rfl (by decide) w_5 rfl dX5_shelf_109 ?_
                    refine g_iloadn C dX5_shelf_112 4 rfl rfl ?_
                    refine g_topci (nI i) (ei) ?_
                    refine g_iald C 10 (i) (f := (m_sortOf v)) rfl rfl (by omega) (by decide) dX5_shelf_113 ?_
                    refine g_goto C 118 dX5_shelf_114 rfl ?_
                    refine g_iast C 14 (j) (f := (m_holdsWhich v)) rfl rfl (by omega) (by decide) dX5_shelf_118 (mw q a ((m_s v), (m_held v), (m_aside v), (m_before v), (m_untried v), (m_isHeld v), (m_tape v), (m_taped v), (m_token v), (m_from v), (m_to v), (m_value v), (m_isWrong v), (m_heard v), (m_isMoved v), (m_rows v), (m_rowN v), (m_sortOf v), (m_sizeOf v), (m_numbers v), (upd (m_holdsWhat v) j 2), (upd (m_holdsWhich v) j ((m_sortOf v) i)), (m_holdsMany v), (m_bodies v), (m_ran v), (m_actKind v), (m_actN v), (m_actA v), (m_isParted v))) rfl ?_
                    refine g_aloadn C dX5_shelf_119 1 rfl rfl ?_
                    refine g_get C fx5 w_1 0 22 (v := .ref (a 15)) rfl (by decide) w_4 rfl dX5_shelf_120 ?_
                    refine g_iloadn C dX5_shelf_123 2 rfl rfl ?_
                    refine g_topci (nI j) (ej) ?_
                    refine g_iload C dX5_shelf_124 0 rfl ?_
                    refine g_if_eqF C 138 dX5_shelf_126 rfl (by decide) ?_
                    refine g_aloadn C dX5_shelf_129 1 rfl rfl ?_
                    refine g_get C fx5 w_1 0 18 (v := .ref (a 11)) rfl (by decide) w_6 rfl dX5_shelf_130 ?_
                    refine g_iloadn C dX5_shelf_133 4 rfl rfl ?_
                    refine g_topci (nI i) (ei) ?_
                    refine g_iald C 11 (i) (f := (m_sizeOf v)) rfl rfl (by omega) (by decide) dX5_shelf_134 ?_
                    refine g_goto C 139 dX5_shelf_135 rfl ?_
                    refine g_iast C 15 (j) (f := (m_holdsMany v)) rfl rfl (by omega) (by decide) dX5_shelf_139 (mw q a ((m_s v), (m_held v), (m_aside v), (m_before v), (m_untried v), (m_isHeld v), (m_tape v), (m_taped v), (m_token v), (m_from v), (m_to v), (m_value v), (m_isWrong v), (m_heard v), (m_isMoved v), (m_rows v), (m_rowN v), (m_sortOf v), (m_sizeOf v), (m_numbers v), (upd (m_holdsWhat v) j 2), (upd (m_holdsWhich v) j ((m_sortOf v) i)), (upd (m_holdsMany v) j ((m_sizeOf v) i)), (m_bodies v), (m_ran v), (m_actKind v), (m_actN v), (m_actA v), (m_isParted v))) rfl ?_
                    refine g_iconst C 1 dX5_shelf_140 (by decide) ?_
                    exact g_iret C ((upd (m_holdsWhat v) j 2), (upd (m_holdsWhich v) j ((m_sortOf v) i)), (upd (m_holdsMany v) j ((m_sizeOf v) i))) hr dX5_shelf_141 (Nat.le_of_ble_eq_true rfl) (Nat.le_of_ble_eq_true rfl) rfl (by have hg_ : shG (m_s v) x y z := ⟨c_4, c_16, fun h => absurd h c_20, fun _ => c_40⟩; unfold R_shelf W_shelf H_shelf M_shelf; rw [if_pos hg_, if_pos hg_, if_pos hg_, if_pos hg_, ec]; exact ⟨rfl, by rw [if_neg c_20, if_pos ⟨c_33, by rw [ei2]; exact Int32.not_lt.mp c_56⟩], by rw [if_neg c_20, if_pos ⟨c_33, by rw [ei2]; exact Int32.not_lt.mp c_56⟩, ei2], by rw [if_pos ⟨c_33, by rw [ei2]; exact Int32.not_lt.mp c_56⟩, ei2]⟩)
                  · exfalso
                    exact c_72 c_96
                · exfalso
                  exact c_20 c_72
          · refine g_iconst C (-1) dX5_shelf_43 (by decide) ?_
            exact g_iret C ((m_holdsWhat v), (m_holdsWhich v), (m_holdsMany v)) hr dX5_shelf_44 (Nat.le_of_ble_eq_true rfl) (Nat.le_of_ble_eq_true rfl) rfl (by have hn_ : ¬ shG (m_s v) x y z := fun h => c_40 (h.2.2.2 c_33); unfold R_shelf W_shelf H_shelf M_shelf; rw [if_neg hn_, if_neg hn_, if_neg hn_, if_neg hn_]; exact ⟨rfl, rfl, rfl, rfl⟩)
      · refine g_aloadn C dX5_shelf_23 0 rfl rfl ?_
        refine g_iloadn C dX5_shelf_24 3 rfl rfl ?_
        refine g_callAi C (rd_V C (k_X5_isOne l D q tt a v z ) gX5_shelf_X5_isOne rfl rfl rfl 1 ok_X5_isOne rfl 0 rfl rfl (rest := []) rfl rfl (Nat.le_of_ble_eq_true rfl) dX5_shelf_25 ⟨(Nat.le_of_ble_eq_true rfl), (Nat.le_of_ble_eq_true rfl)⟩ ⟨(Nat.le_of_ble_eq_true rfl), (Nat.le_of_ble_eq_true rfl)⟩) (fun r_25 _ h_25 => ?_)
        obtain rfl := h_25
        refine g_ifeqE C 43 dX5_shelf_28 rfl rfl (fun c_28 => ?_) (fun c_28 => ?_)
        · refine g_iconst C (-1) dX5_shelf_43 (by decide) ?_
          exact g_iret C ((m_holdsWhat v), (m_holdsWhich v), (m_holdsMany v)) hr dX5_shelf_44 (Nat.le_of_ble_eq_true rfl) (Nat.le_of_ble_eq_true rfl) rfl (by have hn_ : ¬ shG (m_s v) x y z := fun h => c_28 (h.2.2.1 c_20); unfold R_shelf W_shelf H_shelf M_shelf; rw [if_neg hn_, if_neg hn_, if_neg hn_, if_neg hn_]; exact ⟨rfl, rfl, rfl, rfl⟩)
        · refine g_iloadn C dX5_shelf_31 2 rfl rfl ?_
          refine g_iconst C 1 dX5_shelf_32 (by decide) ?_
          refine g_icmp_ne C 45 dX5_shelf_33 rfl (fun c_33 => ?_) (fun c_33 => ?_)
          · obtain ⟨j, hj, ej, ec⟩ := ix_le (n := 3) (by omega) c_4
            refine g_iloadn C dX5_shelf_45 2 rfl rfl ?_
            refine g_iconst C 1 dX5_shelf_46 (by decide) ?_
            refine g_icmp_ne C 63 dX5_shelf_47 rfl (fun c_47 => ?_) (fun c_47 => ?_)
            · refine g_iconst C 0 dX5_shelf_63 (by decide) ?_
              refine g_istore C [(4, .int 0), (0, .ref (a 0)), (1, .int x), (2, .int y), (3, .int z)] dX5_shelf_64 (by decide) rfl ?_
              refine g_aloadn C dX5_shelf_66 1 rfl rfl ?_
              refine g_get C fx5 w_1 0 20 (v := .ref (a 13)) rfl (by decide) w_2 rfl dX5_shelf_67 ?_
              refine g_iloadn C dX5_shelf_70 2 rfl rfl ?_
              refine g_topci (nI j) (ej) ?_
              refine g_iloadn C dX5_shelf_71 3 rfl rfl ?_
              refine g_if_ne C 79 dX5_shelf_72 rfl (fun c_72 => ?_) (fun c_72 => ?_)
              · exfalso
                exact c_72 c_20
              · refine g_iconst C 1 dX5_shelf_75 (by decide) ?_
                refine g_goto C 89 dX5_shelf_76 rfl ?_
                refine g_iast C 13 (j) (f := (m_holdsWhat v)) rfl rfl (by omega) (by decide) dX5_shelf_89 (mw q a ((m_s v), (m_held v), (m_aside v), (m_before v), (m_untried v), (m_isHeld v), (m_tape v), (m_taped v), (m_token v), (m_from v), (m_to v), (m_value v), (m_isWrong v), (m_heard v), (m_isMoved v), (m_rows v), (m_rowN v), (m_sortOf v), (m_sizeOf v), (m_numbers v), (upd (m_holdsWhat v) j 1), (m_holdsWhich v), (m_holdsMany v), (m_bodies v), (m_ran v), (m_actKind v), (m_actN v), (m_actA v), (m_isParted v))) rfl ?_
                refine g_aloadn C dX5_shelf_90 1 rfl rfl ?_
                refine g_get C fx5 w_1 0 21 (v := .ref (a 14)) rfl (by decide) w_3 rfl dX5_shelf_91 ?_
                refine g_iloadn C dX5_shelf_94 2 rfl rfl ?_
                refine g_topci (nI j) (ej) ?_
                refine g_iloadn C dX5_shelf_95 3 rfl rfl ?_
                refine g_if_ne C 103 dX5_shelf_96 rfl (fun c_96 => ?_) (fun c_96 => ?_)
                · exfalso
                  exact c_96 c_72
                · refine g_iloadn C dX5_shelf_99 4 rfl rfl ?_
                  refine g_goto C 118 dX5_shelf_100 rfl ?_
                  refine g_iast C 14 (j) (f := (m_holdsWhich v)) rfl rfl (by omega) (by decide) dX5_shelf_118 (mw q a ((m_s v), (m_held v), (m_aside v), (m_before v), (m_untried v), (m_isHeld v), (m_tape v), (m_taped v), (m_token v), (m_from v), (m_to v), (m_value v), (m_isWrong v), (m_heard v), (m_isMoved v), (m_rows v), (m_rowN v), (m_sortOf v), (m_sizeOf v), (m_numbers v), (upd (m_holdsWhat v) j 1), (upd (m_holdsWhich v) j z), (m_holdsMany v), (m_bodies v), (m_ran v), (m_actKind v), (m_actN v), (m_actA v), (m_isParted v))) rfl ?_
                  refine g_aloadn C dX5_shelf_119 1 rfl rfl ?_
                  refine g_get C fx5 w_1 0 22 (v := .ref (a 15)) rfl (by decide) w_4 rfl dX5_shelf_120 ?_
                  refine g_iloadn C dX5_shelf_123 2 rfl rfl ?_
                  refine g_topci (nI j) (ej) ?_
                  refine g_iload C dX5_shelf_124 0 rfl ?_
                  refine g_if_eqT C 138 dX5_shelf_126 rfl (by decide) ?_
                  refine g_iconst C 0 dX5_shelf_138 (by decide) ?_
                  refine g_iast C 15 (j) (f := (m_holdsMany v)) rfl rfl (by omega) (by decide) dX5_shelf_139 (mw q a ((m_s v), (m_held v), (m_aside v), (m_before v), (m_untried v), (m_isHeld v), (m_tape v), (m_taped v), (m_token v), (m_from v), (m_to v), (m_value v), (m_isWrong v), (m_heard v), (m_isMoved v), (m_rows v), (m_rowN v), (m_sortOf v), (m_sizeOf v), (m_numbers v), (upd (m_holdsWhat v) j 1), (upd (m_holdsWhich v) j z), (upd (m_holdsMany v) j 0), (m_bodies v), (m_ran v), (m_actKind v), (m_actN v), (m_actA v), (m_isParted v))) rfl ?_
                  refine g_iconst C 1 dX5_shelf_140 (by decide) ?_
                  exact g_iret C ((upd (m_holdsWhat v) j 1), (upd (m_holdsWhich v) j z), (upd (m_holdsMany v) j 0)) hr dX5_shelf_141 (Nat.le_of_ble_eq_true rfl) (Nat.le_of_ble_eq_true rfl) rfl (by have hg_ : shG (m_s v) x y z := ⟨c_4, c_16, fun _ => c_28, fun h => absurd (c_20.symm.trans h) (by decide)⟩; unfold R_shelf W_shelf H_shelf M_shelf; rw [if_pos hg_, if_pos hg_, if_pos hg_, if_pos hg_, ec]; exact ⟨rfl, by rw [if_pos c_20], by rw [if_pos c_20], by rw [if_neg (fun h => c_33 h.1)]⟩)
            · exfalso
              exact c_33 c_47
          · exfalso
            exact absurd (c_20.symm.trans c_33) (by decide)

