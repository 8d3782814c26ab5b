set_option maxRecDepth 100000 in
set_option maxHeartbeats 4000000 in
theorem k_X5_sheet (l : Launch) (D : va_G) (q : Nat → ClassId) (tt : Nat → Nat) (a : Nat → Nat) (v : MC) (x : Int32) (y : Int32) (z : Int32)  : MI l D q tt yX5_sheet wsX5_sheet ({ frames := 2, cells := 0, slots := 0, locals := 45 } : Room) [.ref (a 0), .int x, .int y, .int z] (mw q a v) (fun (r : Int32) (u : (Nat → Int32) × (Nat → Int32) × (Nat → Int32)) => r = R_sheet x y z ∧ u.1 = T_sheet (m_sortOf v) x y z ∧ u.2.1 = Z_sheet (m_sizeOf v) x y z ∧ u.2.2 = M_sheet (m_numbers v) x y z) (fun u => (mw q a ((m_s v), (m_held v), (m_aside v), (m_before v), (m_untried v), (m_isHeld v), (m_tape v), (m_taped v), (m_token v), (m_from v), (m_to v), (m_value v), (m_isWrong v), (m_heard v), (m_isMoved v), (m_rows v), (m_rowN v), u.1, u.2.1, u.2.2, (m_holdsWhat v), (m_holdsWhich v), (m_holdsMany v), (m_bodies v), (m_ran v), (m_actKind v), (m_actN v), (m_actA v), (m_isParted v)))) 0 0 := by
  refine MI.of RX5 [(0, .ref (a 0)), (1, .int x), (2, .int y), (3, .int z)] (by decide) rfl rfl (Nat.le_of_ble_eq_true rfl) rfl ?_
  intro p e s m args below meth c A C hr hnm
  have w_0 : Cond.constantLong RX5 255 (-1) ∈ wsX5_sheet := by decide +kernel
  have w_1 : Cond.constantLong RX5 152 (3) ∈ wsX5_sheet := by decide +kernel
  have w_2 : ∀ w ∈ u_ws RX5 TX5 29, w ∈ wsX5_sheet := by decide +kernel
  have w_3 : Cond.fieldLink RX5 38 (TX5 17).1 (TX5 17).2.1 (TX5 17).2.2.1 ∈ wsX5_sheet := by decide +kernel
  have w_4 : Cond.fieldLink RX5 41 (TX5 18).1 (TX5 18).2.1 (TX5 18).2.2.1 ∈ wsX5_sheet := by decide +kernel
  have w_5 : Cond.fieldLink RX5 44 (TX5 19).1 (TX5 19).2.1 (TX5 19).2.2.1 ∈ wsX5_sheet := by decide +kernel
  refine g_iloadn C dX5_sheet_0 1 rfl rfl ?_
  refine g_call0i C (rd_S C (k_X5_isSheet l D q tt x ) gX5_sheet_X5_isSheet rfl rfl rfl 1 ok_X5_isSheet (rest := []) rfl rfl (Nat.le_of_ble_eq_true rfl) dX5_sheet_1 ⟨(Nat.le_of_ble_eq_true rfl), (Nat.le_of_ble_eq_true rfl)⟩ ⟨(Nat.le_of_ble_eq_true rfl), (Nat.le_of_ble_eq_true rfl)⟩) (fun _ => rfl) (fun r_1 _ h_1 => ?_)
  obtain rfl := h_1
  refine g_ifeqE C 31 dX5_sheet_4 rfl rfl (fun c_4 => ?_) (fun c_4 => ?_)
  · refine g_iconst C (-1) dX5_sheet_31 (by decide) ?_
    exact g_iret C ((m_sortOf v), (m_sizeOf v), (m_numbers v)) hr dX5_sheet_32 (Nat.le_of_ble_eq_true rfl) (Nat.le_of_ble_eq_true rfl) rfl (by have hn_ : ¬ seG x y z := fun h => c_4 h.1; unfold R_sheet T_sheet Z_sheet M_sheet; rw [if_neg hn_, if_neg (fun h => hn_ h.1), if_neg (fun h => hn_ h.1), if_neg (fun h => hn_ h.1)]; exact ⟨rfl, rfl, rfl, rfl⟩)
  · refine g_iloadn C dX5_sheet_7 2 rfl rfl ?_
    refine g_i2l C dX5_sheet_8 ?_
    refine g_ldc2 C (-1) dX5_sheet_9 w_0 ?_
    refine g_ldc2 C (3) dX5_sheet_12 w_1 ?_
    refine g_call0i C (rd_S C (k_isIn32 l D q tt (y) (-1) (3) (-1) (3) (by decide) (by decide)) gX5_sheet_X5_isIn rfl rfl rfl 3 ok_X5_isIn (rest := []) rfl rfl (Nat.le_of_ble_eq_true rfl) dX5_sheet_15 ⟨(Nat.le_of_ble_eq_true rfl), (Nat.le_of_ble_eq_true rfl)⟩ ⟨(Nat.le_of_ble_eq_true rfl), (Nat.le_of_ble_eq_true rfl)⟩) (fun _ => rfl) (fun r_15 _ h_15 => ?_)
    obtain rfl := h_15
    refine g_ifeqE C 31 dX5_sheet_18 rfl rfl (fun c_18 => ?_) (fun c_18 => ?_)
    · refine g_iconst C (-1) dX5_sheet_31 (by decide) ?_
      exact g_iret C ((m_sortOf v), (m_sizeOf v), (m_numbers v)) hr dX5_sheet_32 (Nat.le_of_ble_eq_true rfl) (Nat.le_of_ble_eq_true rfl) rfl (by have hn_ : ¬ seG x y z := fun h => c_18 h.2.1; unfold R_sheet T_sheet Z_sheet M_sheet; rw [if_neg hn_, if_neg (fun h => hn_ h.1), if_neg (fun h => hn_ h.1), if_neg (fun h => hn_ h.1)]; exact ⟨rfl, rfl, rfl, rfl⟩)
    · refine g_iloadn C dX5_sheet_21 2 rfl rfl ?_
      refine g_if_lt C 33 dX5_sheet_22 rfl (fun c_22 => ?_) (fun c_22 => ?_)
      · refine g_iloadn C dX5_sheet_33 2 rfl rfl ?_
        refine g_if_lt C 44 dX5_sheet_34 rfl (fun c_34 => ?_) (fun c_34 => ?_)
        · obtain ⟨j, hj, ej, ec⟩ := ix_le (n := 3) (by omega) c_4
          refine g_aloadn C dX5_sheet_44 0 rfl rfl ?_
          refine g_get C fx5 w_2 0 17 (v := .ref (a 10)) rfl (by decide) w_3 rfl dX5_sheet_45 ?_
          refine g_iloadn C dX5_sheet_48 1 rfl rfl ?_
          refine g_topci (nI j) (ej) ?_
          refine g_iloadn C dX5_sheet_49 2 rfl rfl ?_
          refine g_iast C 10 (j) (f := (m_sortOf v)) rfl rfl (by omega) (by decide) dX5_sheet_50 (mw q a ((m_s v), (m_held v), (m_aside v), (m_before v), (m_untried v), (m_isHeld v), (m_tape v), (m_taped v), (m_token v), (m_from v), (m_to v), (m_value v), (m_isWrong v), (m_heard v), (m_isMoved v), (m_rows v), (m_rowN v), (upd (m_sortOf v) j y), (m_sizeOf v), (m_numbers v), (m_holdsWhat v), (m_holdsWhich v), (m_holdsMany v), (m_bodies v), (m_ran v), (m_actKind v), (m_actN v), (m_actA v), (m_isParted v))) (by first | dsimp only [mw, List.set, m_s, m_held, m_aside, m_before, m_untried, m_isHeld, m_tape, m_taped, m_token, m_from, m_to, m_value, m_isWrong, m_heard, m_isMoved, m_rows, m_rowN, m_sortOf, m_sizeOf, m_numbers, m_holdsWhat, m_holdsWhich, m_holdsMany, m_bodies, m_ran, m_actKind, m_actN, m_actA, m_isParted] | rfl) ?_
          refine g_aloadn C dX5_sheet_51 0 rfl rfl ?_
          refine g_get C fx5 w_2 0 18 (v := .ref (a 11)) rfl (by decide) w_4 rfl dX5_sheet_52 ?_
          refine g_iloadn C dX5_sheet_55 1 rfl rfl ?_
          refine g_topci (nI j) (ej) ?_
          refine g_iloadn C dX5_sheet_56 2 rfl rfl ?_
          refine g_if_ge C 64 dX5_sheet_57 rfl (fun c_57 => ?_) (fun c_57 => ?_)
          · exfalso
            exact absurd c_34 (Int32.not_lt.mpr c_57)
          · refine g_iconst C 0 dX5_sheet_60 (by decide) ?_
            refine g_goto C 65 dX5_sheet_61 rfl ?_
            refine g_iast C 11 (j) (f := (m_sizeOf v)) rfl rfl (by omega) (by decide) dX5_sheet_65 (mw q a ((m_s v), (m_held v), (m_aside v), (m_before v), (m_untried v), (m_isHeld v), (m_tape v), (m_taped v), (m_token v), (m_from v), (m_to v), (m_value v), (m_isWrong v), (m_heard v), (m_isMoved v), (m_rows v), (m_rowN v), (upd (m_sortOf v) j y), (upd (m_sizeOf v) j 0), (m_numbers v), (m_holdsWhat v), (m_holdsWhich v), (m_holdsMany v), (m_bodies v), (m_ran v), (m_actKind v), (m_actN v), (m_actA v), (m_isParted v))) (by first | dsimp only [mw, List.set, m_s, m_held, m_aside, m_before, m_untried, m_isHeld, m_tape, m_taped, m_token, m_from, m_to, m_value, m_isWrong, m_heard, m_isMoved, m_rows, m_rowN, m_sortOf, m_sizeOf, m_numbers, m_holdsWhat, m_holdsWhich, m_holdsMany, m_bodies, m_ran, m_actKind, m_actN, m_actA, m_isParted] | rfl) ?_
            refine g_iconst C 0 dX5_sheet_66 (by decide) ?_
            refine g_istore C [(4, .int 0), (0, .ref (a 0)), (1, .int x), (2, .int y), (3, .int z)] dX5_sheet_67 (by decide) rfl ?_
            have J_69 : ∀ (fu : Nat) (i : Nat), 40 - i < fu → (i ≤ 40) → G p l e ({ frames := 2, cells := 0, slots := 0, locals := 45 } : Room) s m args below meth c 5 D A (MQ below (va_Qi (fun (r : Int32) (u : (Nat → Int32) × (Nat → Int32) × (Nat → Int32)) => r = R_sheet x y z ∧ u.1 = T_sheet (m_sortOf v) x y z ∧ u.2.1 = Z_sheet (m_sizeOf v) x y z ∧ u.2.2 = M_sheet (m_numbers v) x y z) (Bw D A (fun u => (mw q a ((m_s v), (m_held v), (m_aside v), (m_before v), (m_untried v), (m_isHeld v), (m_tape v), (m_taped v), (m_token v), (m_from v), (m_to v), (m_value v), (m_isWrong v), (m_heard v), (m_isMoved v), (m_rows v), (m_rowN v), u.1, u.2.1, u.2.2, (m_holdsWhat v), (m_holdsWhich v), (m_holdsMany v), (m_bodies v), (m_ran v), (m_actKind v), (m_actN v), (m_actA v), (m_isParted v))))) A) args s 0 0 A) 69 [(0, .ref (a 0)), (1, .int x), (2, .int y), (3, .int z), (4, .int (nI i))] [] (mw q a ((m_s v), (m_held v), (m_aside v), (m_before v), (m_untried v), (m_isHeld v), (m_tape v), (m_taped v), (m_token v), (m_from v), (m_to v), (m_value v), (m_isWrong v), (m_heard v), (m_isMoved v), (m_rows v), (m_rowN v), (upd (m_sortOf v) j y), (upd (m_sizeOf v) j 0), (clM (m_numbers v) j i), (m_holdsWhat v), (m_holdsWhich v), (m_holdsMany v), (m_bodies v), (m_ran v), (m_actKind v), (m_actN v), (m_actA v), (m_isParted v))) 0 0 := by
              intro fu
              induction fu with
              | zero =>
                intro i hfu
                exact absurd hfu (Nat.not_lt_zero _)
              | succ fu ih =>
                intro i hfu hi
                refine g_iload C dX5_sheet_69 4 rfl ?_
                refine g_bipush C 40 dX5_sheet_71 (by decide) ?_
                refine g_icmpN_ge C 95 (i) (40) dX5_sheet_73 rfl (by omega) (by omega) (fun c_73 => ?_) (fun c_73 => ?_)
                · refine g_iconst C 1 dX5_sheet_95 (by decide) ?_
                  exact g_iret C ((upd (m_sortOf v) j y), (upd (m_sizeOf v) j 0), (clM (m_numbers v) j i)) hr dX5_sheet_96 (Nat.le_of_ble_eq_true rfl) (Nat.le_of_ble_eq_true rfl) rfl (by have hg_ : seG x y z := ⟨c_4, c_18, fun h => absurd c_22 (Int32.not_lt.mpr h)⟩; unfold R_sheet T_sheet Z_sheet M_sheet; have hl_ : ¬ (0 ≤ y ∧ z < 0) := fun h => absurd c_34 (Int32.not_lt.mpr h.1); have hh_ : seH x y z := ⟨hg_, hl_⟩; rw [if_pos hg_, if_neg hl_, if_pos hh_, if_pos hh_, if_pos hh_, ec]; exact ⟨rfl, rfl, by rw [if_pos (Int32.not_le.mp c_57)], by rw [show i = 40 by omega]⟩)
                · refine g_aloadn C dX5_sheet_76 0 rfl rfl ?_
                  refine g_get C fx5 w_2 0 19 (v := .ref (a 12)) rfl (by decide) w_5 rfl dX5_sheet_77 ?_
                  refine g_bipush C 40 dX5_sheet_80 (by decide) ?_
                  refine g_iloadn C dX5_sheet_82 1 rfl rfl ?_
                  refine g_topci (nI j) (ej) ?_
                  refine g_imul C dX5_sheet_83 ?_
                  refine g_iload C dX5_sheet_84 4 rfl ?_
                  refine g_iadd C dX5_sheet_86 ?_
                  refine g_iconst C 0 dX5_sheet_87 (by decide) ?_
                  refine g_iast C 12 (((40 * j) + i)) (f := (clM (m_numbers v) j i)) rfl (ix_add (ix_mul rfl rfl) rfl) (by omega) (by decide) dX5_sheet_88 (mw q a ((m_s v), (m_held v), (m_aside v), (m_before v), (m_untried v), (m_isHeld v), (m_tape v), (m_taped v), (m_token v), (m_from v), (m_to v), (m_value v), (m_isWrong v), (m_heard v), (m_isMoved v), (m_rows v), (m_rowN v), (upd (m_sortOf v) j y), (upd (m_sizeOf v) j 0), (upd (clM (m_numbers v) j i) ((40 * j) + i) 0), (m_holdsWhat v), (m_holdsWhich v), (m_holdsMany v), (m_bodies v), (m_ran v), (m_actKind v), (m_actN v), (m_actA v), (m_isParted v))) (by first | dsimp only [mw, List.set, m_s, m_held, m_aside, m_before, m_untried, m_isHeld, m_tape, m_taped, m_token, m_from, m_to, m_value, m_isWrong, m_heard, m_isMoved, m_rows, m_rowN, m_sortOf, m_sizeOf, m_numbers, m_holdsWhat, m_holdsWhich, m_holdsMany, m_bodies, m_ran, m_actKind, m_actN, m_actA, m_isParted] | rfl) ?_
                  refine g_wsc (mw q a ((m_s v), (m_held v), (m_aside v), (m_before v), (m_untried v), (m_isHeld v), (m_tape v), (m_taped v), (m_token v), (m_from v), (m_to v), (m_value v), (m_isWrong v), (m_heard v), (m_isMoved v), (m_rows v), (m_rowN v), (upd (m_sortOf v) j y), (upd (m_sizeOf v) j 0), (clM (m_numbers v) j (i + 1)), (m_holdsWhat v), (m_holdsWhich v), (m_holdsMany v), (m_bodies v), (m_ran v), (m_actKind v), (m_actN v), (m_actA v), (m_isParted v))) (by rw [clM]) ?_
                  refine g_iinc C (nI (i + 1)) [(4, .int (nI (i + 1))), (0, .ref (a 0)), (1, .int x), (2, .int y), (3, .int z)] dX5_sheet_89 4 rfl (nI_add i 1) (by decide) rfl ?_
                  refine g_goto C 69 dX5_sheet_92 rfl ?_
                  refine g_sub [1, 2, 3, 4, 0] (lv' := [(0, .ref (a 0)), (1, .int x), (2, .int y), (3, .int z), (4, .int (nI (i + 1)))]) rfl ?_
                  exact ih ((i + 1)) (by omega) (by first | assumption | omega)
            refine g_wsc (mw q a ((m_s v), (m_held v), (m_aside v), (m_before v), (m_untried v), (m_isHeld v), (m_tape v), (m_taped v), (m_token v), (m_from v), (m_to v), (m_value v), (m_isWrong v), (m_heard v), (m_isMoved v), (m_rows v), (m_rowN v), (upd (m_sortOf v) j y), (upd (m_sizeOf v) j 0), (clM (m_numbers v) j 0), (m_holdsWhat v), (m_holdsWhich v), (m_holdsMany v), (m_bodies v), (m_ran v), (m_actKind v), (m_actN v), (m_actA v), (m_isParted v))) (by rw [clM]) ?_
            refine g_sub [1, 2, 3, 4, 0] (lv' := [(0, .ref (a 0)), (1, .int x), (2, .int y), (3, .int z), (4, .int 0)]) rfl ?_
            exact J_69 _ (0) (Nat.lt_succ_self _) (by first | assumption | omega)
        · exfalso
          exact c_34 c_22
      · refine g_iloadn C dX5_sheet_25 3 rfl rfl ?_
        refine g_bipush C 40 dX5_sheet_26 (by decide) ?_
        refine g_icmp_le C 33 dX5_sheet_28 rfl (fun c_28 => ?_) (fun c_28 => ?_)
        · refine g_iloadn C dX5_sheet_33 2 rfl rfl ?_
          refine g_if_lt C 44 dX5_sheet_34 rfl (fun c_34 => ?_) (fun c_34 => ?_)
          · exfalso
            exact c_22 c_34
          · refine g_iloadn C dX5_sheet_37 3 rfl rfl ?_
            refine g_if_ge C 44 dX5_sheet_38 rfl (fun c_38 => ?_) (fun c_38 => ?_)
            · obtain ⟨j, hj, ej, ec⟩ := ix_le (n := 3) (by omega) c_4
              refine g_aloadn C dX5_sheet_44 0 rfl rfl ?_
              refine g_get C fx5 w_2 0 17 (v := .ref (a 10)) rfl (by decide) w_3 rfl dX5_sheet_45 ?_
              refine g_iloadn C dX5_sheet_48 1 rfl rfl ?_
              refine g_topci (nI j) (ej) ?_
              refine g_iloadn C dX5_sheet_49 2 rfl rfl ?_
              refine g_iast C 10 (j) (f := (m_sortOf v)) rfl rfl (by omega) (by decide) dX5_sheet_50 (mw q a ((m_s v), (m_held v), (m_aside v), (m_before v), (m_untried v), (m_isHeld v), (m_tape v), (m_taped v), (m_token v), (m_from v), (m_to v), (m_value v), (m_isWrong v), (m_heard v), (m_isMoved v), (m_rows v), (m_rowN v), (upd (m_sortOf v) j y), (m_sizeOf v), (m_numbers v), (m_holdsWhat v), (m_holdsWhich v), (m_holdsMany v), (m_bodies v), (m_ran v), (m_actKind v), (m_actN v), (m_actA v), (m_isParted v))) (by first | dsimp only [mw, List.set, m_s, m_held, m_aside, m_before, m_untried, m_isHeld, m_tape, m_taped, m_token, m_from, m_to, m_value, m_isWrong, m_heard, m_isMoved, m_rows, m_rowN, m_sortOf, m_sizeOf, m_numbers, m_holdsWhat, m_holdsWhich, m_holdsMany, m_bodies, m_ran, m_actKind, m_actN, m_actA, m_isParted] | rfl) ?_
              refine g_aloadn C dX5_sheet_51 0 rfl rfl ?_
              refine g_get C fx5 w_2 0 18 (v := .ref (a 11)) rfl (by decide) w_4 rfl dX5_sheet_52 ?_
              refine g_iloadn C dX5_sheet_55 1 rfl rfl ?_
              refine g_topci (nI j) (ej) ?_
              refine g_iloadn C dX5_sheet_56 2 rfl rfl ?_
              refine g_if_ge C 64 dX5_sheet_57 rfl (fun c_57 => ?_) (fun c_57 => ?_)
              · refine g_iloadn C dX5_sheet_64 3 rfl rfl ?_
                refine g_iast C 11 (j) (f := (m_sizeOf v)) rfl rfl (by omega) (by decide) dX5_sheet_65 (mw q a ((m_s v), (m_held v), (m_aside v), (m_before v), (m_untried v), (m_isHeld v), (m_tape v), (m_taped v), (m_token v), (m_from v), (m_to v), (m_value v), (m_isWrong v), (m_heard v), (m_isMoved v), (m_rows v), (m_rowN v), (upd (m_sortOf v) j y), (upd (m_sizeOf v) j z), (m_numbers v), (m_holdsWhat v), (m_holdsWhich v), (m_holdsMany v), (m_bodies v), (m_ran v), (m_actKind v), (m_actN v), (m_actA v), (m_isParted v))) (by first | dsimp only [mw, List.set, m_s, m_held, m_aside, m_before, m_untried, m_isHeld, m_tape, m_taped, m_token, m_from, m_to, m_value, m_isWrong, m_heard, m_isMoved, m_rows, m_rowN, m_sortOf, m_sizeOf, m_numbers, m_holdsWhat, m_holdsWhich, m_holdsMany, m_bodies, m_ran, m_actKind, m_actN, m_actA, m_isParted] | rfl) ?_
                refine g_iconst C 0 dX5_sheet_66 (by decide) ?_
                refine g_istore C [(4, .int 0), (0, .ref (a 0)), (1, .int x), (2, .int y), (3, .int z)] dX5_sheet_67 (by decide) rfl ?_
                have J_69 : ∀ (fu : Nat) (i : Nat), 40 - i < fu → (i ≤ 40) → G p l e ({ frames := 2, cells := 0, slots := 0, locals := 45 } : Room) s m args below meth c 5 D A (MQ below (va_Qi (fun (r : Int32) (u : (Nat → Int32) × (Nat → Int32) × (Nat → Int32)) => r = R_sheet x y z ∧ u.1 = T_sheet (m_sortOf v) x y z ∧ u.2.1 = Z_sheet (m_sizeOf v) x y z ∧ u.2.2 = M_sheet (m_numbers v) x y z) (Bw D A (fun u => (mw q a ((m_s v), (m_held v), (m_aside v), (m_before v), (m_untried v), (m_isHeld v), (m_tape v), (m_taped v), (m_token v), (m_from v), (m_to v), (m_value v), (m_isWrong v), (m_heard v), (m_isMoved v), (m_rows v), (m_rowN v), u.1, u.2.1, u.2.2, (m_holdsWhat v), (m_holdsWhich v), (m_holdsMany v), (m_bodies v), (m_ran v), (m_actKind v), (m_actN v), (m_actA v), (m_isParted v))))) A) args s 0 0 A) 69 [(0, .ref (a 0)), (1, .int x), (2, .int y), (3, .int z), (4, .int (nI i))] [] (mw q a ((m_s v), (m_held v), (m_aside v), (m_before v), (m_untried v), (m_isHeld v), (m_tape v), (m_taped v), (m_token v), (m_from v), (m_to v), (m_value v), (m_isWrong v), (m_heard v), (m_isMoved v), (m_rows v), (m_rowN v), (upd (m_sortOf v) j y), (upd (m_sizeOf v) j z), (clM (m_numbers v) j i), (m_holdsWhat v), (m_holdsWhich v), (m_holdsMany v), (m_bodies v), (m_ran v), (m_actKind v), (m_actN v), (m_actA v), (m_isParted v))) 0 0 := by
                  intro fu
                  induction fu with
                  | zero =>
                    intro i hfu
                    exact absurd hfu (Nat.not_lt_zero _)
                  | succ fu ih =>
                    intro i hfu hi
                    refine g_iload C dX5_sheet_69 4 rfl ?_
                    refine g_bipush C 40 dX5_sheet_71 (by decide) ?_
                    refine g_icmpN_ge C 95 (i) (40) dX5_sheet_73 rfl (by omega) (by omega) (fun c_73 => ?_) (fun c_73 => ?_)
                    · refine g_iconst C 1 dX5_sheet_95 (by decide) ?_
                      exact g_iret C ((upd (m_sortOf v) j y), (upd (m_sizeOf v) j z), (clM (m_numbers v) j i)) hr dX5_sheet_96 (Nat.le_of_ble_eq_true rfl) (Nat.le_of_ble_eq_true rfl) rfl (by have hg_ : seG x y z := ⟨c_4, c_18, fun _ => c_28⟩; unfold R_sheet T_sheet Z_sheet M_sheet; have hl_ : ¬ (0 ≤ y ∧ z < 0) := fun h => absurd h.2 (Int32.not_lt.mpr c_38); have hh_ : seH x y z := ⟨hg_, hl_⟩; rw [if_pos hg_, if_neg hl_, if_pos hh_, if_pos hh_, if_pos hh_, ec]; exact ⟨rfl, rfl, by rw [if_neg (Int32.not_lt.mpr c_57)], by rw [show i = 40 by omega]⟩)
                    · refine g_aloadn C dX5_sheet_76 0 rfl rfl ?_
                      refine g_get C fx5 w_2 0 19 (v := .ref (a 12)) rfl (by decide) w_5 rfl dX5_sheet_77 ?_
                      refine g_bipush C 40 dX5_sheet_80 (by decide) ?_
                      refine g_iloadn C dX5_sheet_82 1 rfl rfl ?_
                      refine g_topci (nI j) (ej) ?_
                      refine g_imul C dX5_sheet_83 ?_
                      refine g_iload C dX5_sheet_84 4 rfl ?_
                      refine g_iadd C dX5_sheet_86 ?_
                      refine g_iconst C 0 dX5_sheet_87 (by decide) ?_
                      refine g_iast C 12 (((40 * j) + i)) (f := (clM (m_numbers v) j i)) rfl (ix_add (ix_mul rfl rfl) rfl) (by omega) (by decide) dX5_sheet_88 (mw q a ((m_s v), (m_held v), (m_aside v), (m_before v), (m_untried v), (m_isHeld v), (m_tape v), (m_taped v), (m_token v), (m_from v), (m_to v), (m_value v), (m_isWrong v), (m_heard v), (m_isMoved v), (m_rows v), (m_rowN v), (upd (m_sortOf v) j y), (upd (m_sizeOf v) j z), (upd (clM (m_numbers v) j i) ((40 * j) + i) 0), (m_holdsWhat v), (m_holdsWhich v), (m_holdsMany v), (m_bodies v), (m_ran v), (m_actKind v), (m_actN v), (m_actA v), (m_isParted v))) (by first | dsimp only [mw, List.set, m_s, m_held, m_aside, m_before, m_untried, m_isHeld, m_tape, m_taped, m_token, m_from, m_to, m_value, m_isWrong, m_heard, m_isMoved, m_rows, m_rowN, m_sortOf, m_sizeOf, m_numbers, m_holdsWhat, m_holdsWhich, m_holdsMany, m_bodies, m_ran, m_actKind, m_actN, m_actA, m_isParted] | rfl) ?_
                      refine g_wsc (mw q a ((m_s v), (m_held v), (m_aside v), (m_before v), (m_untried v), (m_isHeld v), (m_tape v), (m_taped v), (m_token v), (m_from v), (m_to v), (m_value v), (m_isWrong v), (m_heard v), (m_isMoved v), (m_rows v), (m_rowN v), (upd (m_sortOf v) j y), (upd (m_sizeOf v) j z), (clM (m_numbers v) j (i + 1)), (m_holdsWhat v), (m_holdsWhich v), (m_holdsMany v), (m_bodies v), (m_ran v), (m_actKind v), (m_actN v), (m_actA v), (m_isParted v))) (by rw [clM]) ?_
                      refine g_iinc C (nI (i + 1)) [(4, .int (nI (i + 1))), (0, .ref (a 0)), (1, .int x), (2, .int y), (3, .int z)] dX5_sheet_89 4 rfl (nI_add i 1) (by decide) rfl ?_
                      refine g_goto C 69 dX5_sheet_92 rfl ?_
                      refine g_sub [1, 2, 3, 4, 0] (lv' := [(0, .ref (a 0)), (1, .int x), (2, .int y), (3, .int z), (4, .int (nI (i + 1)))]) rfl ?_
                      exact ih ((i + 1)) (by omega) (by first | assumption | omega)
                refine g_wsc (mw q a ((m_s v), (m_held v), (m_aside v), (m_before v), (m_untried v), (m_isHeld v), (m_tape v), (m_taped v), (m_token v), (m_from v), (m_to v), (m_value v), (m_isWrong v), (m_heard v), (m_isMoved v), (m_rows v), (m_rowN v), (upd (m_sortOf v) j y), (upd (m_sizeOf v) j z), (clM (m_numbers v) j 0), (m_holdsWhat v), (m_holdsWhich v), (m_holdsMany v), (m_bodies v), (m_ran v), (m_actKind v), (m_actN v), (m_actA v), (m_isParted v))) (by rw [clM]) ?_
                refine g_sub [1, 2, 3, 4, 0] (lv' := [(0, .ref (a 0)), (1, .int x), (2, .int y), (3, .int z), (4, .int 0)]) rfl ?_
                exact J_69 _ (0) (Nat.lt_succ_self _) (by first | assumption | omega)
              · exfalso
                exact c_34 (Int32.not_le.mp c_57)
            · refine g_bipush C (-14) dX5_sheet_41 (by decide) ?_
              exact g_iret C ((m_sortOf v), (m_sizeOf v), (m_numbers v)) hr dX5_sheet_43 (Nat.le_of_ble_eq_true rfl) (Nat.le_of_ble_eq_true rfl) rfl (by have hg_ : seG x y z := ⟨c_4, c_18, fun _ => c_28⟩; unfold R_sheet T_sheet Z_sheet M_sheet; have hl_ : 0 ≤ y ∧ z < 0 := ⟨Int32.not_lt.mp c_34, Int32.not_le.mp c_38⟩; rw [if_pos hg_, if_pos hl_, if_neg (fun h => h.2 hl_), if_neg (fun h => h.2 hl_), if_neg (fun h => h.2 hl_)]; exact ⟨rfl, rfl, rfl, rfl⟩)
        · refine g_iconst C (-1) dX5_sheet_31 (by decide) ?_
          exact g_iret C ((m_sortOf v), (m_sizeOf v), (m_numbers v)) hr dX5_sheet_32 (Nat.le_of_ble_eq_true rfl) (Nat.le_of_ble_eq_true rfl) rfl (by have hn_ : ¬ seG x y z := fun h => absurd (h.2.2 (Int32.not_lt.mp c_22)) c_28; unfold R_sheet T_sheet Z_sheet M_sheet; rw [if_neg hn_, if_neg (fun h => hn_ h.1), if_neg (fun h => hn_ h.1), if_neg (fun h => hn_ h.1)]; exact ⟨rfl, rfl, rfl, rfl⟩)

