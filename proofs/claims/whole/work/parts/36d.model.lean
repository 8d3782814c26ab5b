set_option maxRecDepth 100000 in
set_option maxHeartbeats 4000000 in
theorem k_numW (l : Launch) (D : va_G) (q : Nat → ClassId) (tt : Nat → Nat) (a : Nat → Nat) (v : MC) (x1 : Int32) (lo : Int32) (hi_ : Int32)  : MV l D q tt yX5_numberTo wsX5_numberTo ({ frames := 1, cells := 0, slots := 0, locals := 21 } : Room) [.ref (a 0), .int x1, .int lo, .int hi_] (mw q a ((m_s v), (m_held v), (m_aside v), (m_before v), (m_untried v), (m_isHeld v), (m_tape v), (m_taped v), (m_token v), (m_from v), (m_to v), (m_value v), 1, (m_heard v), (m_isMoved v), (m_rows v), (m_rowN v), (m_sortOf v), (m_sizeOf v), (m_numbers v), (m_holdsWhat v), (m_holdsWhich v), (m_holdsMany v), (m_bodies v), (m_ran v), (m_actKind v), (m_actN v), (m_actA v), (m_isParted v))) (fun (u : Unit) => True) (fun (_ : Unit) => (mw q a ((m_s v), (m_held v), (m_aside v), (m_before v), (m_untried v), (m_isHeld v), (m_tape v), (m_taped v), (m_token v), (m_from v), (m_to v), (m_value v), 1, (m_heard v), (m_isMoved v), (m_rows v), (m_rowN v), (m_sortOf v), (m_sizeOf v), (m_numbers v), (m_holdsWhat v), (m_holdsWhich v), (m_holdsMany v), (m_bodies v), (m_ran v), (m_actKind v), (m_actN v), (m_actA v), (m_isParted v)))) 0 0 := by
  refine MV.of RX5 [(0, .ref (a 0)), (1, .int x1), (2, .int lo), (3, .int hi_)] (by decide) rfl rfl (Nat.le_of_ble_eq_true rfl) rfl ?_
  intro p e s m args below meth c A C hr hnm
  have w_0 : ∀ w ∈ u_ws RX5 TX5 29, w ∈ wsX5_numberTo := by decide +kernel
  have w_1 : Cond.fieldLink RX5 91 (TX5 8).1 (TX5 8).2.1 (TX5 8).2.2.1 ∈ wsX5_numberTo := by decide +kernel
  have w_2 : Cond.fieldLink RX5 74 (TX5 10).1 (TX5 10).2.1 (TX5 10).2.2.1 ∈ wsX5_numberTo := by decide +kernel
  have w_3 : Cond.fieldLink RX5 77 (TX5 9).1 (TX5 9).2.1 (TX5 9).2.2.1 ∈ wsX5_numberTo := by decide +kernel
  have w_4 : Cond.fieldLink RX5 94 (TX5 11).1 (TX5 11).2.1 (TX5 11).2.2.1 ∈ wsX5_numberTo := by decide +kernel
  have w_5 : Cond.fieldLink RX5 97 (TX5 12).1 (TX5 12).2.1 (TX5 12).2.2.1 ∈ wsX5_numberTo := by decide +kernel
  refine g_aloadn C dX5_numberTo_0 0 rfl rfl ?_
  refine g_get C fx5 w_0 0 8 (v := .int (m_token v)) rfl (by decide) w_1 rfl dX5_numberTo_1 ?_
  refine g_iconst C 2 dX5_numberTo_4 (by decide) ?_
  refine g_icmp_ne C 41 dX5_numberTo_5 rfl (fun c_5 => ?_) (fun c_5 => ?_)
  · refine g_iconst C 0 dX5_numberTo_41 (by decide) ?_
    refine g_istore C [(4, .int 0), (0, .ref (a 0)), (1, .int x1), (2, .int lo), (3, .int hi_)] dX5_numberTo_42 (by decide) rfl ?_
    refine g_iload C dX5_numberTo_44 0 rfl ?_
    refine g_if_eqT C 66 dX5_numberTo_46 rfl (by decide) ?_
    refine g_aloadn C dX5_numberTo_66 1 rfl rfl ?_
    refine g_iload C dX5_numberTo_67 0 rfl ?_
    refine g_callAv C (rd_V C (k_needsW l D q tt a v 0 ) gX5_numberTo_X5_needs rfl rfl rfl 1 ok_X5_needs rfl 0 rfl rfl (rest := []) rfl rfl (Nat.le_of_ble_eq_true rfl) dX5_numberTo_69 ⟨(Nat.le_of_ble_eq_true rfl), (Nat.le_of_ble_eq_true rfl)⟩ ⟨(Nat.le_of_ble_eq_true rfl), (Nat.le_of_ble_eq_true rfl)⟩) (fun _ h_69 => ?_)
    exact g_vret C () hr dX5_numberTo_72 (Nat.le_of_ble_eq_true rfl) (Nat.le_of_ble_eq_true rfl) rfl (trivial)
  · refine g_aloadn C dX5_numberTo_8 0 rfl rfl ?_
    refine g_get C fx5 w_0 0 10 (v := .int (m_to v)) rfl (by decide) w_2 rfl dX5_numberTo_9 ?_
    refine g_aloadn C dX5_numberTo_12 0 rfl rfl ?_
    refine g_get C fx5 w_0 0 9 (v := .int (m_from v)) rfl (by decide) w_3 rfl dX5_numberTo_13 ?_
    refine g_isub C dX5_numberTo_16 ?_
    refine g_iconst C 3 dX5_numberTo_17 (by decide) ?_
    refine g_icmp_gt C 41 dX5_numberTo_18 rfl (fun c_18 => ?_) (fun c_18 => ?_)
    · refine g_iconst C 0 dX5_numberTo_41 (by decide) ?_
      refine g_istore C [(4, .int 0), (0, .ref (a 0)), (1, .int x1), (2, .int lo), (3, .int hi_)] dX5_numberTo_42 (by decide) rfl ?_
      refine g_iload C dX5_numberTo_44 0 rfl ?_
      refine g_if_eqT C 66 dX5_numberTo_46 rfl (by decide) ?_
      refine g_aloadn C dX5_numberTo_66 1 rfl rfl ?_
      refine g_iload C dX5_numberTo_67 0 rfl ?_
      refine g_callAv C (rd_V C (k_needsW l D q tt a v 0 ) gX5_numberTo_X5_needs rfl rfl rfl 1 ok_X5_needs rfl 0 rfl rfl (rest := []) rfl rfl (Nat.le_of_ble_eq_true rfl) dX5_numberTo_69 ⟨(Nat.le_of_ble_eq_true rfl), (Nat.le_of_ble_eq_true rfl)⟩ ⟨(Nat.le_of_ble_eq_true rfl), (Nat.le_of_ble_eq_true rfl)⟩) (fun _ h_69 => ?_)
      exact g_vret C () hr dX5_numberTo_72 (Nat.le_of_ble_eq_true rfl) (Nat.le_of_ble_eq_true rfl) rfl (trivial)
    · refine g_aloadn C dX5_numberTo_21 0 rfl rfl ?_
      refine g_get C fx5 w_0 0 11 (v := .int (m_value v)) rfl (by decide) w_4 rfl dX5_numberTo_22 ?_
      refine g_iloadn C dX5_numberTo_25 2 rfl rfl ?_
      refine g_icmp_lt C 41 dX5_numberTo_26 rfl (fun c_26 => ?_) (fun c_26 => ?_)
      · refine g_iconst C 0 dX5_numberTo_41 (by decide) ?_
        refine g_istore C [(4, .int 0), (0, .ref (a 0)), (1, .int x1), (2, .int lo), (3, .int hi_)] dX5_numberTo_42 (by decide) rfl ?_
        refine g_iload C dX5_numberTo_44 0 rfl ?_
        refine g_if_eqT C 66 dX5_numberTo_46 rfl (by decide) ?_
        refine g_aloadn C dX5_numberTo_66 1 rfl rfl ?_
        refine g_iload C dX5_numberTo_67 0 rfl ?_
        refine g_callAv C (rd_V C (k_needsW l D q tt a v 0 ) gX5_numberTo_X5_needs rfl rfl rfl 1 ok_X5_needs rfl 0 rfl rfl (rest := []) rfl rfl (Nat.le_of_ble_eq_true rfl) dX5_numberTo_69 ⟨(Nat.le_of_ble_eq_true rfl), (Nat.le_of_ble_eq_true rfl)⟩ ⟨(Nat.le_of_ble_eq_true rfl), (Nat.le_of_ble_eq_true rfl)⟩) (fun _ h_69 => ?_)
        exact g_vret C () hr dX5_numberTo_72 (Nat.le_of_ble_eq_true rfl) (Nat.le_of_ble_eq_true rfl) rfl (trivial)
      · refine g_aloadn C dX5_numberTo_29 0 rfl rfl ?_
        refine g_get C fx5 w_0 0 11 (v := .int (m_value v)) rfl (by decide) w_4 rfl dX5_numberTo_30 ?_
        refine g_iloadn C dX5_numberTo_33 3 rfl rfl ?_
        refine g_icmp_gt C 41 dX5_numberTo_34 rfl (fun c_34 => ?_) (fun c_34 => ?_)
        · refine g_iconst C 0 dX5_numberTo_41 (by decide) ?_
          refine g_istore C [(4, .int 0), (0, .ref (a 0)), (1, .int x1), (2, .int lo), (3, .int hi_)] dX5_numberTo_42 (by decide) rfl ?_
          refine g_iload C dX5_numberTo_44 0 rfl ?_
          refine g_if_eqT C 66 dX5_numberTo_46 rfl (by decide) ?_
          refine g_aloadn C dX5_numberTo_66 1 rfl rfl ?_
          refine g_iload C dX5_numberTo_67 0 rfl ?_
          refine g_callAv C (rd_V C (k_needsW l D q tt a v 0 ) gX5_numberTo_X5_needs rfl rfl rfl 1 ok_X5_needs rfl 0 rfl rfl (rest := []) rfl rfl (Nat.le_of_ble_eq_true rfl) dX5_numberTo_69 ⟨(Nat.le_of_ble_eq_true rfl), (Nat.le_of_ble_eq_true rfl)⟩ ⟨(Nat.le_of_ble_eq_true rfl), (Nat.le_of_ble_eq_true rfl)⟩) (fun _ h_69 => ?_)
          exact g_vret C () hr dX5_numberTo_72 (Nat.le_of_ble_eq_true rfl) (Nat.le_of_ble_eq_true rfl) rfl (trivial)
        · refine g_iconst C 1 dX5_numberTo_37 (by decide) ?_
          refine g_goto C 42 dX5_numberTo_38 rfl ?_
          refine g_istore C [(4, .int 1), (0, .ref (a 0)), (1, .int x1), (2, .int lo), (3, .int hi_)] dX5_numberTo_42 (by decide) rfl ?_
          refine g_iload C dX5_numberTo_44 0 rfl ?_
          refine g_if_eqF C 66 dX5_numberTo_46 rfl (by decide) ?_
          refine g_aloadn C dX5_numberTo_49 1 rfl rfl ?_
          refine g_get C fx5 w_0 0 12 (v := .int 1) rfl (by decide) w_5 rfl dX5_numberTo_50 ?_
          refine g_if_neT C 66 dX5_numberTo_53 rfl (by decide) ?_
          refine g_aloadn C dX5_numberTo_66 1 rfl rfl ?_
          refine g_iload C dX5_numberTo_67 0 rfl ?_
          refine g_callAv C (rd_V C (k_needsW l D q tt a v 1 ) gX5_numberTo_X5_needs rfl rfl rfl 1 ok_X5_needs rfl 0 rfl rfl (rest := []) rfl rfl (Nat.le_of_ble_eq_true rfl) dX5_numberTo_69 ⟨(Nat.le_of_ble_eq_true rfl), (Nat.le_of_ble_eq_true rfl)⟩ ⟨(Nat.le_of_ble_eq_true rfl), (Nat.le_of_ble_eq_true rfl)⟩) (fun _ h_69 => ?_)
          exact g_vret C () hr dX5_numberTo_72 (Nat.le_of_ble_eq_true rfl) (Nat.le_of_ble_eq_true rfl) rfl (trivial)

set_option maxRecDepth 100000 in
set_option maxHeartbeats 4000000 in
theorem k_numY (l : Launch) (D : va_G) (q : Nat → ClassId) (tt : Nat → Nat) (a : Nat → Nat) (v : MC) (n : Nat) (f : Nat) (at_ : Nat) (lo : Int32) (hi_ : Int32) (htn : (m_taped v) = nI n) (hn2 : n ≤ 200) (hU : TPU (m_tape v) n) (hf : f ≤ n) (hat : at_ < 47) (hb : nbP (m_tape v) n f lo hi_) : MV l D q tt yX5_numberTo wsX5_numberTo ({ frames := 3, cells := 0, slots := 0, locals := 63 } : Room) [.ref (a 0), .int (nI at_), .int lo, .int hi_] (mw q a ((m_s v), (m_held v), (m_aside v), (m_before v), (m_untried v), (m_isHeld v), (m_tape v), (m_taped v), (nI (kdT (m_tape v) n f)), (nI f), (nI (EN (m_tape v) n f)), (vlT (m_tape v) n f), 0, (m_heard v), (m_isMoved v), (m_rows v), (m_rowN v), (m_sortOf v), (m_sizeOf v), (m_numbers v), (m_holdsWhat v), (m_holdsWhich v), (m_holdsMany v), (m_bodies v), (m_ran v), (m_actKind v), (m_actN v), (m_actA v), (m_isParted v))) (fun (u : Unit) => True) (fun (_ : Unit) => (mw q a ((upd (m_s v) at_ (vlT (m_tape v) n f)), (m_held v), (m_aside v), (m_before v), (m_untried v), (m_isHeld v), (m_tape v), (m_taped v), (nI (kdT (m_tape v) n (FB (m_tape v) n (EN (m_tape v) n f)))), (nI (FB (m_tape v) n (EN (m_tape v) n f))), (nI (EN (m_tape v) n (FB (m_tape v) n (EN (m_tape v) n f)))), (vlT (m_tape v) n (FB (m_tape v) n (EN (m_tape v) n f))), 0, (m_heard v), (m_isMoved v), (m_rows v), (m_rowN v), (m_sortOf v), (m_sizeOf v), (m_numbers v), (m_holdsWhat v), (m_holdsWhich v), (m_holdsMany v), (m_bodies v), (m_ran v), (m_actKind v), (m_actN v), (m_actA v), (m_isParted v)))) 0 0 := by
  refine MV.of RX5 [(0, .ref (a 0)), (1, .int (nI at_)), (2, .int lo), (3, .int hi_)] (by decide) rfl rfl (Nat.le_of_ble_eq_true rfl) rfl ?_
  intro p e s m args below meth c A C hr hnm
  have w_0 : ∀ w ∈ u_ws RX5 TX5 29, w ∈ wsX5_numberTo := by decide +kernel
  have w_1 : Cond.fieldLink RX5 91 (TX5 8).1 (TX5 8).2.1 (TX5 8).2.2.1 ∈ wsX5_numberTo := by decide +kernel
  have w_2 : Cond.fieldLink RX5 74 (TX5 10).1 (TX5 10).2.1 (TX5 10).2.2.1 ∈ wsX5_numberTo := by decide +kernel
  have w_3 : Cond.fieldLink RX5 77 (TX5 9).1 (TX5 9).2.1 (TX5 9).2.2.1 ∈ wsX5_numberTo := by decide +kernel
  have w_4 : Cond.fieldLink RX5 94 (TX5 11).1 (TX5 11).2.1 (TX5 11).2.2.1 ∈ wsX5_numberTo := by decide +kernel
  have w_5 : Cond.fieldLink RX5 97 (TX5 12).1 (TX5 12).2.1 (TX5 12).2.2.1 ∈ wsX5_numberTo := by decide +kernel
  have w_6 : Cond.fieldLink RX5 7 (TX5 0).1 (TX5 0).2.1 (TX5 0).2.2.1 ∈ wsX5_numberTo := by decide +kernel
  have hen := en_le (u := (m_tape v)) hf
  refine g_aloadn C dX5_numberTo_0 0 rfl rfl ?_
  refine g_get C fx5 w_0 0 8 (v := .int (nI (kdT (m_tape v) n f))) rfl (by decide) w_1 rfl dX5_numberTo_1 ?_
  refine g_iconst C 2 dX5_numberTo_4 (by decide) ?_
  refine g_icmpN_ne C 41 ((kdT (m_tape v) n f)) (2) dX5_numberTo_5 rfl (kd_b _ _ _) (by omega) (fun c_5 => ?_) (fun c_5 => ?_)
  · exfalso
    first | exact c_5 hb.1 | (have := hb.2.1; omega) | exact absurd c_26 (Int32.not_lt.mpr hb.2.2.1) | exact absurd c_34 (Int32.not_lt.mpr hb.2.2.2)
  · refine g_aloadn C dX5_numberTo_8 0 rfl rfl ?_
    refine g_get C fx5 w_0 0 10 (v := .int (nI (EN (m_tape v) n f))) rfl (by decide) w_2 rfl dX5_numberTo_9 ?_
    refine g_aloadn C dX5_numberTo_12 0 rfl rfl ?_
    refine g_get C fx5 w_0 0 9 (v := .int (nI f)) rfl (by decide) w_3 rfl dX5_numberTo_13 ?_
    refine g_isub C dX5_numberTo_16 ?_
    refine g_topci (nI (((EN (m_tape v) n f)) - f)) ((ix_sub rfl rfl (by omega))) ?_
    refine g_iconst C 3 dX5_numberTo_17 (by decide) ?_
    refine g_icmpN_gt C 41 ((((EN (m_tape v) n f)) - f)) (3) dX5_numberTo_18 rfl (by omega) (by omega) (fun c_18 => ?_) (fun c_18 => ?_)
    · exfalso
      first | exact c_5 hb.1 | (have := hb.2.1; omega) | exact absurd c_26 (Int32.not_lt.mpr hb.2.2.1) | exact absurd c_34 (Int32.not_lt.mpr hb.2.2.2)
    · refine g_aloadn C dX5_numberTo_21 0 rfl rfl ?_
      refine g_get C fx5 w_0 0 11 (v := .int (vlT (m_tape v) n f)) rfl (by decide) w_4 rfl dX5_numberTo_22 ?_
      refine g_iloadn C dX5_numberTo_25 2 rfl rfl ?_
      refine g_icmp_lt C 41 dX5_numberTo_26 rfl (fun c_26 => ?_) (fun c_26 => ?_)
      · exfalso
        first | exact c_5 hb.1 | (have := hb.2.1; omega) | exact absurd c_26 (Int32.not_lt.mpr hb.2.2.1) | exact absurd c_34 (Int32.not_lt.mpr hb.2.2.2)
      · refine g_aloadn C dX5_numberTo_29 0 rfl rfl ?_
        refine g_get C fx5 w_0 0 11 (v := .int (vlT (m_tape v) n f)) rfl (by decide) w_4 rfl dX5_numberTo_30 ?_
        refine g_iloadn C dX5_numberTo_33 3 rfl rfl ?_
        refine g_icmp_gt C 41 dX5_numberTo_34 rfl (fun c_34 => ?_) (fun c_34 => ?_)
        · exfalso
          first | exact c_5 hb.1 | (have := hb.2.1; omega) | exact absurd c_26 (Int32.not_lt.mpr hb.2.2.1) | exact absurd c_34 (Int32.not_lt.mpr hb.2.2.2)
        · refine g_iconst C 1 dX5_numberTo_37 (by decide) ?_
          refine g_goto C 42 dX5_numberTo_38 rfl ?_
          refine g_istore C [(4, .int 1), (0, .ref (a 0)), (1, .int (nI at_)), (2, .int lo), (3, .int hi_)] dX5_numberTo_42 (by decide) rfl ?_
          refine g_iload C dX5_numberTo_44 0 rfl ?_
          refine g_if_eqF C 66 dX5_numberTo_46 rfl (by decide) ?_
          refine g_aloadn C dX5_numberTo_49 1 rfl rfl ?_
          refine g_get C fx5 w_0 0 12 (v := .int 0) rfl (by decide) w_5 rfl dX5_numberTo_50 ?_
          refine g_if_neF C 66 dX5_numberTo_53 rfl (by decide) ?_
          refine g_aloadn C dX5_numberTo_56 1 rfl rfl ?_
          refine g_get C fx5 w_0 0 0 (v := .ref (a 1)) rfl (by decide) w_6 rfl dX5_numberTo_57 ?_
          refine g_iloadn C dX5_numberTo_60 2 rfl rfl ?_
          refine g_aloadn C dX5_numberTo_61 1 rfl rfl ?_
          refine g_get C fx5 w_0 0 11 (v := .int (vlT (m_tape v) n f)) rfl (by decide) w_4 rfl dX5_numberTo_62 ?_
          refine g_iast C 1 (at_) (f := (m_s v)) rfl rfl (by omega) (by decide) dX5_numberTo_65 (mw q a ((upd (m_s v) at_ (vlT (m_tape v) n f)), (m_held v), (m_aside v), (m_before v), (m_untried v), (m_isHeld v), (m_tape v), (m_taped v), (nI (kdT (m_tape v) n f)), (nI f), (nI (EN (m_tape v) n f)), (vlT (m_tape v) n f), 0, (m_heard v), (m_isMoved v), (m_rows v), (m_rowN v), (m_sortOf v), (m_sizeOf v), (m_numbers v), (m_holdsWhat v), (m_holdsWhich v), (m_holdsMany v), (m_bodies v), (m_ran v), (m_actKind v), (m_actN v), (m_actA v), (m_isParted v))) (by first | dsimp only [mw, List.set, m_s, m_held, m_aside, m_before, m_untried, m_isHeld, m_tape, m_taped, m_token, m_from, m_to, m_value, m_isWrong, m_heard, m_isMoved, m_rows, m_rowN, m_sortOf, m_sizeOf, m_numbers, m_holdsWhat, m_holdsWhich, m_holdsMany, m_bodies, m_ran, m_actKind, m_actN, m_actA, m_isParted] | rfl) ?_
          refine g_aloadn C dX5_numberTo_66 1 rfl rfl ?_
          refine g_iload C dX5_numberTo_67 0 rfl ?_
          refine g_callAv C (rd_V C (k_needsY l D q tt a ((upd (m_s v) at_ (vlT (m_tape v) n f)), (m_held v), (m_aside v), (m_before v), (m_untried v), (m_isHeld v), (m_tape v), (m_taped v), (m_token v), (m_from v), (m_to v), (m_value v), (m_isWrong v), (m_heard v), (m_isMoved v), (m_rows v), (m_rowN v), (m_sortOf v), (m_sizeOf v), (m_numbers v), (m_holdsWhat v), (m_holdsWhich v), (m_holdsMany v), (m_bodies v), (m_ran v), (m_actKind v), (m_actN v), (m_actA v), (m_isParted v)) n f (by first | assumption | omega) (by first | assumption | omega) (by first | assumption | omega) (by first | assumption | omega)) gX5_numberTo_X5_needs rfl rfl rfl 1 ok_X5_needs rfl 0 rfl rfl (rest := []) rfl rfl (Nat.le_of_ble_eq_true rfl) dX5_numberTo_69 ⟨(Nat.le_of_ble_eq_true rfl), (Nat.le_of_ble_eq_true rfl)⟩ ⟨(Nat.le_of_ble_eq_true rfl), (Nat.le_of_ble_eq_true rfl)⟩) (fun _ h_69 => ?_)
          refine g_wsc (mw q a ((upd (m_s v) at_ (vlT (m_tape v) n f)), (m_held v), (m_aside v), (m_before v), (m_untried v), (m_isHeld v), (m_tape v), (m_taped v), (nI (kdT (m_tape v) n (FB (m_tape v) n (EN (m_tape v) n f)))), (nI (FB (m_tape v) n (EN (m_tape v) n f))), (nI (EN (m_tape v) n (FB (m_tape v) n (EN (m_tape v) n f)))), (vlT (m_tape v) n (FB (m_tape v) n (EN (m_tape v) n f))), 0, (m_heard v), (m_isMoved v), (m_rows v), (m_rowN v), (m_sortOf v), (m_sizeOf v), (m_numbers v), (m_holdsWhat v), (m_holdsWhich v), (m_holdsMany v), (m_bodies v), (m_ran v), (m_actKind v), (m_actN v), (m_actA v), (m_isParted v))) rfl ?_
          exact g_vret C () hr dX5_numberTo_72 (Nat.le_of_ble_eq_true rfl) (Nat.le_of_ble_eq_true rfl) rfl (trivial)

set_option maxRecDepth 100000 in
set_option maxHeartbeats 4000000 in
theorem k_numN (l : Launch) (D : va_G) (q : Nat → ClassId) (tt : Nat → Nat) (a : Nat → Nat) (v : MC) (n : Nat) (f : Nat) (x1 : Int32) (lo : Int32) (hi_ : Int32) (htn : (m_taped v) = nI n) (hn2 : n ≤ 200) (hU : TPU (m_tape v) n) (hf : f ≤ n) (hb : ¬ nbP (m_tape v) n f lo hi_) : MV l D q tt yX5_numberTo wsX5_numberTo ({ frames := 1, cells := 0, slots := 0, locals := 21 } : Room) [.ref (a 0), .int x1, .int lo, .int hi_] (mw q a ((m_s v), (m_held v), (m_aside v), (m_before v), (m_untried v), (m_isHeld v), (m_tape v), (m_taped v), (nI (kdT (m_tape v) n f)), (nI f), (nI (EN (m_tape v) n f)), (vlT (m_tape v) n f), 0, (m_heard v), (m_isMoved v), (m_rows v), (m_rowN v), (m_sortOf v), (m_sizeOf v), (m_numbers v), (m_holdsWhat v), (m_holdsWhich v), (m_holdsMany v), (m_bodies v), (m_ran v), (m_actKind v), (m_actN v), (m_actA v), (m_isParted v))) (fun (u : Unit) => True) (fun (_ : Unit) => (mw q a ((m_s v), (m_held v), (m_aside v), (m_before v), (m_untried v), (m_isHeld v), (m_tape v), (m_taped v), (nI (kdT (m_tape v) n f)), (nI f), (nI (EN (m_tape v) n f)), (vlT (m_tape v) n f), 1, (m_heard v), (m_isMoved v), (m_rows v), (m_rowN v), (m_sortOf v), (m_sizeOf v), (m_numbers v), (m_holdsWhat v), (m_holdsWhich v), (m_holdsMany v), (m_bodies v), (m_ran v), (m_actKind v), (m_actN v), (m_actA v), (m_isParted v)))) 0 0 := by
  refine MV.of RX5 [(0, .ref (a 0)), (1, .int x1), (2, .int lo), (3, .int hi_)] (by decide) rfl rfl (Nat.le_of_ble_eq_true rfl) rfl ?_
  intro p e s m args below meth c A C hr hnm
  have w_0 : ∀ w ∈ u_ws RX5 TX5 29, w ∈ wsX5_numberTo := by decide +kernel
  have w_1 : Cond.fieldLink RX5 91 (TX5 8).1 (TX5 8).2.1 (TX5 8).2.2.1 ∈ wsX5_numberTo := by decide +kernel
  have w_2 : Cond.fieldLink RX5 74 (TX5 10).1 (TX5 10).2.1 (TX5 10).2.2.1 ∈ wsX5_numberTo := by decide +kernel
  have w_3 : Cond.fieldLink RX5 77 (TX5 9).1 (TX5 9).2.1 (TX5 9).2.2.1 ∈ wsX5_numberTo := by decide +kernel
  have w_4 : Cond.fieldLink RX5 94 (TX5 11).1 (TX5 11).2.1 (TX5 11).2.2.1 ∈ wsX5_numberTo := by decide +kernel
  have hen := en_le (u := (m_tape v)) hf
  refine g_aloadn C dX5_numberTo_0 0 rfl rfl ?_
  refine g_get C fx5 w_0 0 8 (v := .int (nI (kdT (m_tape v) n f))) rfl (by decide) w_1 rfl dX5_numberTo_1 ?_
  refine g_iconst C 2 dX5_numberTo_4 (by decide) ?_
  refine g_icmpN_ne C 41 ((kdT (m_tape v) n f)) (2) dX5_numberTo_5 rfl (kd_b _ _ _) (by omega) (fun c_5 => ?_) (fun c_5 => ?_)
  · refine g_iconst C 0 dX5_numberTo_41 (by decide) ?_
    refine g_istore C [(4, .int 0), (0, .ref (a 0)), (1, .int x1), (2, .int lo), (3, .int hi_)] dX5_numberTo_42 (by decide) rfl ?_
    refine g_iload C dX5_numberTo_44 0 rfl ?_
    refine g_if_eqT C 66 dX5_numberTo_46 rfl (by decide) ?_
    refine g_aloadn C dX5_numberTo_66 1 rfl rfl ?_
    refine g_iload C dX5_numberTo_67 0 rfl ?_
    refine g_callAv C (rd_V C (k_needsN l D q tt a ((m_s v), (m_held v), (m_aside v), (m_before v), (m_untried v), (m_isHeld v), (m_tape v), (m_taped v), (nI (kdT (m_tape v) n f)), (nI f), (nI (EN (m_tape v) n f)), (vlT (m_tape v) n f), (m_isWrong v), (m_heard v), (m_isMoved v), (m_rows v), (m_rowN v), (m_sortOf v), (m_sizeOf v), (m_numbers v), (m_holdsWhat v), (m_holdsWhich v), (m_holdsMany v), (m_bodies v), (m_ran v), (m_actKind v), (m_actN v), (m_actA v), (m_isParted v)) ) gX5_numberTo_X5_needs rfl rfl rfl 1 ok_X5_needs rfl 0 rfl rfl (rest := []) rfl rfl (Nat.le_of_ble_eq_true rfl) dX5_numberTo_69 ⟨(Nat.le_of_ble_eq_true rfl), (Nat.le_of_ble_eq_true rfl)⟩ ⟨(Nat.le_of_ble_eq_true rfl), (Nat.le_of_ble_eq_true rfl)⟩) (fun _ h_69 => ?_)
    refine g_wsc (mw q a ((m_s v), (m_held v), (m_aside v), (m_before v), (m_untried v), (m_isHeld v), (m_tape v), (m_taped v), (nI (kdT (m_tape v) n f)), (nI f), (nI (EN (m_tape v) n f)), (vlT (m_tape v) n f), 1, (m_heard v), (m_isMoved v), (m_rows v), (m_rowN v), (m_sortOf v), (m_sizeOf v), (m_numbers v), (m_holdsWhat v), (m_holdsWhich v), (m_holdsMany v), (m_bodies v), (m_ran v), (m_actKind v), (m_actN v), (m_actA v), (m_isParted v))) rfl ?_
    exact g_vret C () hr dX5_numberTo_72 (Nat.le_of_ble_eq_true rfl) (Nat.le_of_ble_eq_true rfl) rfl (trivial)
  · refine g_aloadn C dX5_numberTo_8 0 rfl rfl ?_
    refine g_get C fx5 w_0 0 10 (v := .int (nI (EN (m_tape v) n f))) rfl (by decide) w_2 rfl dX5_numberTo_9 ?_
    refine g_aloadn C dX5_numberTo_12 0 rfl rfl ?_
    refine g_get C fx5 w_0 0 9 (v := .int (nI f)) rfl (by decide) w_3 rfl dX5_numberTo_13 ?_
    refine g_isub C dX5_numberTo_16 ?_
    refine g_topci (nI (((EN (m_tape v) n f)) - f)) ((ix_sub rfl rfl (by omega))) ?_
    refine g_iconst C 3 dX5_numberTo_17 (by decide) ?_
    refine g_icmpN_gt C 41 ((((EN (m_tape v) n f)) - f)) (3) dX5_numberTo_18 rfl (by omega) (by omega) (fun c_18 => ?_) (fun c_18 => ?_)
    · refine g_iconst C 0 dX5_numberTo_41 (by decide) ?_
      refine g_istore C [(4, .int 0), (0, .ref (a 0)), (1, .int x1), (2, .int lo), (3, .int hi_)] dX5_numberTo_42 (by decide) rfl ?_
      refine g_iload C dX5_numberTo_44 0 rfl ?_
      refine g_if_eqT C 66 dX5_numberTo_46 rfl (by decide) ?_
      refine g_aloadn C dX5_numberTo_66 1 rfl rfl ?_
      refine g_iload C dX5_numberTo_67 0 rfl ?_
      refine g_callAv C (rd_V C (k_needsN l D q tt a ((m_s v), (m_held v), (m_aside v), (m_before v), (m_untried v), (m_isHeld v), (m_tape v), (m_taped v), (nI (kdT (m_tape v) n f)), (nI f), (nI (EN (m_tape v) n f)), (vlT (m_tape v) n f), (m_isWrong v), (m_heard v), (m_isMoved v), (m_rows v), (m_rowN v), (m_sortOf v), (m_sizeOf v), (m_numbers v), (m_holdsWhat v), (m_holdsWhich v), (m_holdsMany v), (m_bodies v), (m_ran v), (m_actKind v), (m_actN v), (m_actA v), (m_isParted v)) ) gX5_numberTo_X5_needs rfl rfl rfl 1 ok_X5_needs rfl 0 rfl rfl (rest := []) rfl rfl (Nat.le_of_ble_eq_true rfl) dX5_numberTo_69 ⟨(Nat.le_of_ble_eq_true rfl), (Nat.le_of_ble_eq_true rfl)⟩ ⟨(Nat.le_of_ble_eq_true rfl), (Nat.le_of_ble_eq_true rfl)⟩) (fun _ h_69 => ?_)
      refine g_wsc (mw q a ((m_s v), (m_held v), (m_aside v), (m_before v), (m_untried v), (m_isHeld v), (m_tape v), (m_taped v), (nI (kdT (m_tape v) n f)), (nI f), (nI (EN (m_tape v) n f)), (vlT (m_tape v) n f), 1, (m_heard v), (m_isMoved v), (m_rows v), (m_rowN v), (m_sortOf v), (m_sizeOf v), (m_numbers v), (m_holdsWhat v), (m_holdsWhich v), (m_holdsMany v), (m_bodies v), (m_ran v), (m_actKind v), (m_actN v), (m_actA v), (m_isParted v))) rfl ?_
      exact g_vret C () hr dX5_numberTo_72 (Nat.le_of_ble_eq_true rfl) (Nat.le_of_ble_eq_true rfl) rfl (trivial)
    · refine g_aloadn C dX5_numberTo_21 0 rfl rfl ?_
      refine g_get C fx5 w_0 0 11 (v := .int (vlT (m_tape v) n f)) rfl (by decide) w_4 rfl dX5_numberTo_22 ?_
      refine g_iloadn C dX5_numberTo_25 2 rfl rfl ?_
      refine g_icmp_lt C 41 dX5_numberTo_26 rfl (fun c_26 => ?_) (fun c_26 => ?_)
      · refine g_iconst C 0 dX5_numberTo_41 (by decide) ?_
        refine g_istore C [(4, .int 0), (0, .ref (a 0)), (1, .int x1), (2, .int lo), (3, .int hi_)] dX5_numberTo_42 (by decide) rfl ?_
        refine g_iload C dX5_numberTo_44 0 rfl ?_
        refine g_if_eqT C 66 dX5_numberTo_46 rfl (by decide) ?_
        refine g_aloadn C dX5_numberTo_66 1 rfl rfl ?_
        refine g_iload C dX5_numberTo_67 0 rfl ?_
        refine g_callAv C (rd_V C (k_needsN l D q tt a ((m_s v), (m_held v), (m_aside v), (m_before v), (m_untried v), (m_isHeld v), (m_tape v), (m_taped v), (nI (kdT (m_tape v) n f)), (nI f), (nI (EN (m_tape v) n f)), (vlT (m_tape v) n f), (m_isWrong v), (m_heard v), (m_isMoved v), (m_rows v), (m_rowN v), (m_sortOf v), (m_sizeOf v), (m_numbers v), (m_holdsWhat v), (m_holdsWhich v), (m_holdsMany v), (m_bodies v), (m_ran v), (m_actKind v), (m_actN v), (m_actA v), (m_isParted v)) ) gX5_numberTo_X5_needs rfl rfl rfl 1 ok_X5_needs rfl 0 rfl rfl (rest := []) rfl rfl (Nat.le_of_ble_eq_true rfl) dX5_numberTo_69 ⟨(Nat.le_of_ble_eq_true rfl), (Nat.le_of_ble_eq_true rfl)⟩ ⟨(Nat.le_of_ble_eq_true rfl), (Nat.le_of_ble_eq_true rfl)⟩) (fun _ h_69 => ?_)
        refine g_wsc (mw q a ((m_s v), (m_held v), (m_aside v), (m_before v), (m_untried v), (m_isHeld v), (m_tape v), (m_taped v), (nI (kdT (m_tape v) n f)), (nI f), (nI (EN (m_tape v) n f)), (vlT (m_tape v) n f), 1, (m_heard v), (m_isMoved v), (m_rows v), (m_rowN v), (m_sortOf v), (m_sizeOf v), (m_numbers v), (m_holdsWhat v), (m_holdsWhich v), (m_holdsMany v), (m_bodies v), (m_ran v), (m_actKind v), (m_actN v), (m_actA v), (m_isParted v))) rfl ?_
        exact g_vret C () hr dX5_numberTo_72 (Nat.le_of_ble_eq_true rfl) (Nat.le_of_ble_eq_true rfl) rfl (trivial)
      · refine g_aloadn C dX5_numberTo_29 0 rfl rfl ?_
        refine g_get C fx5 w_0 0 11 (v := .int (vlT (m_tape v) n f)) rfl (by decide) w_4 rfl dX5_numberTo_30 ?_
        refine g_iloadn C dX5_numberTo_33 3 rfl rfl ?_
        refine g_icmp_gt C 41 dX5_numberTo_34 rfl (fun c_34 => ?_) (fun c_34 => ?_)
        · refine g_iconst C 0 dX5_numberTo_41 (by decide) ?_
          refine g_istore C [(4, .int 0), (0, .ref (a 0)), (1, .int x1), (2, .int lo), (3, .int hi_)] dX5_numberTo_42 (by decide) rfl ?_
          refine g_iload C dX5_numberTo_44 0 rfl ?_
          refine g_if_eqT C 66 dX5_numberTo_46 rfl (by decide) ?_
          refine g_aloadn C dX5_numberTo_66 1 rfl rfl ?_
          refine g_iload C dX5_numberTo_67 0 rfl ?_
          refine g_callAv C (rd_V C (k_needsN l D q tt a ((m_s v), (m_held v), (m_aside v), (m_before v), (m_untried v), (m_isHeld v), (m_tape v), (m_taped v), (nI (kdT (m_tape v) n f)), (nI f), (nI (EN (m_tape v) n f)), (vlT (m_tape v) n f), (m_isWrong v), (m_heard v), (m_isMoved v), (m_rows v), (m_rowN v), (m_sortOf v), (m_sizeOf v), (m_numbers v), (m_holdsWhat v), (m_holdsWhich v), (m_holdsMany v), (m_bodies v), (m_ran v), (m_actKind v), (m_actN v), (m_actA v), (m_isParted v)) ) gX5_numberTo_X5_needs rfl rfl rfl 1 ok_X5_needs rfl 0 rfl rfl (rest := []) rfl rfl (Nat.le_of_ble_eq_true rfl) dX5_numberTo_69 ⟨(Nat.le_of_ble_eq_true rfl), (Nat.le_of_ble_eq_true rfl)⟩ ⟨(Nat.le_of_ble_eq_true rfl), (Nat.le_of_ble_eq_true rfl)⟩) (fun _ h_69 => ?_)
          refine g_wsc (mw q a ((m_s v), (m_held v), (m_aside v), (m_before v), (m_untried v), (m_isHeld v), (m_tape v), (m_taped v), (nI (kdT (m_tape v) n f)), (nI f), (nI (EN (m_tape v) n f)), (vlT (m_tape v) n f), 1, (m_heard v), (m_isMoved v), (m_rows v), (m_rowN v), (m_sortOf v), (m_sizeOf v), (m_numbers v), (m_holdsWhat v), (m_holdsWhich v), (m_holdsMany v), (m_bodies v), (m_ran v), (m_actKind v), (m_actN v), (m_actA v), (m_isParted v))) rfl ?_
          exact g_vret C () hr dX5_numberTo_72 (Nat.le_of_ble_eq_true rfl) (Nat.le_of_ble_eq_true rfl) rfl (trivial)
        · exfalso
          exact hb ⟨c_5, by omega, Int32.not_lt.mp c_26, Int32.not_lt.mp c_34⟩

set_option maxRecDepth 100000 in
set_option maxHeartbeats 4000000 in
theorem k_perW (l : Launch) (D : va_G) (q : Nat → ClassId) (tt : Nat → Nat) (a : Nat → Nat) (v : MC) (z : Int32) (x1 : Int32) (hi_ : Int32)  : MV l D q tt yX5_perhaps wsX5_perhaps ({ frames := 0, cells := 0, slots := 0, locals := 0 } : Room) [.ref (a 0), .int z, .int x1, .int hi_] (mw q a ((m_s v), (m_held v), (m_aside v), (m_before v), (m_untried v), (m_isHeld v), (m_tape v), (m_taped v), (m_token v), (m_from v), (m_to v), (m_value v), 1, (m_heard v), (m_isMoved v), (m_rows v), (m_rowN v), (m_sortOf v), (m_sizeOf v), (m_numbers v), (m_holdsWhat v), (m_holdsWhich v), (m_holdsMany v), (m_bodies v), (m_ran v), (m_actKind v), (m_actN v), (m_actA v), (m_isParted v))) (fun (u : Unit) => True) (fun (_ : Unit) => (mw q a ((m_s v), (m_held v), (m_aside v), (m_before v), (m_untried v), (m_isHeld v), (m_tape v), (m_taped v), (m_token v), (m_from v), (m_to v), (m_value v), 1, (m_heard v), (m_isMoved v), (m_rows v), (m_rowN v), (m_sortOf v), (m_sizeOf v), (m_numbers v), (m_holdsWhat v), (m_holdsWhich v), (m_holdsMany v), (m_bodies v), (m_ran v), (m_actKind v), (m_actN v), (m_actA v), (m_isParted v)))) 0 0 := by
  refine MV.of RX5 [(0, .ref (a 0)), (1, .int z), (2, .int x1), (3, .int hi_)] (by decide) rfl rfl (Nat.le_of_ble_eq_true rfl) rfl ?_
  intro p e s m args below meth c A C hr hnm
  have w_0 : ∀ w ∈ u_ws RX5 TX5 29, w ∈ wsX5_perhaps := by decide +kernel
  have w_1 : Cond.fieldLink RX5 97 (TX5 12).1 (TX5 12).2.1 (TX5 12).2.2.1 ∈ wsX5_perhaps := by decide +kernel
  refine g_aloadn C dX5_perhaps_0 0 rfl rfl ?_
  refine g_get C fx5 w_0 0 12 (v := .int 1) rfl (by decide) w_1 rfl dX5_perhaps_1 ?_
  refine g_if_neT C 22 dX5_perhaps_4 rfl (by decide) ?_
  exact g_vret C () hr dX5_perhaps_22 (Nat.le_of_ble_eq_true rfl) (Nat.le_of_ble_eq_true rfl) rfl (trivial)

set_option maxRecDepth 100000 in
set_option maxHeartbeats 4000000 in
theorem k_per0 (l : Launch) (D : va_G) (q : Nat → ClassId) (tt : Nat → Nat) (a : Nat → Nat) (v : MC) (x1 : Int32) (hi_ : Int32)  : MV l D q tt yX5_perhaps wsX5_perhaps ({ frames := 0, cells := 0, slots := 0, locals := 0 } : Room) [.ref (a 0), .int 0, .int x1, .int hi_] (mw q a ((m_s v), (m_held v), (m_aside v), (m_before v), (m_untried v), (m_isHeld v), (m_tape v), (m_taped v), (m_token v), (m_from v), (m_to v), (m_value v), 0, (m_heard v), (m_isMoved v), (m_rows v), (m_rowN v), (m_sortOf v), (m_sizeOf v), (m_numbers v), (m_holdsWhat v), (m_holdsWhich v), (m_holdsMany v), (m_bodies v), (m_ran v), (m_actKind v), (m_actN v), (m_actA v), (m_isParted v))) (fun (u : Unit) => True) (fun (_ : Unit) => (mw q a ((m_s v), (m_held v), (m_aside v), (m_before v), (m_untried v), (m_isHeld v), (m_tape v), (m_taped v), (m_token v), (m_from v), (m_to v), (m_value v), 0, (m_heard v), (m_isMoved v), (m_rows v), (m_rowN v), (m_sortOf v), (m_sizeOf v), (m_numbers v), (m_holdsWhat v), (m_holdsWhich v), (m_holdsMany v), (m_bodies v), (m_ran v), (m_actKind v), (m_actN v), (m_actA v), (m_isParted v)))) 0 0 := by
  refine MV.of RX5 [(0, .ref (a 0)), (1, .int 0), (2, .int x1), (3, .int hi_)] (by decide) rfl rfl (Nat.le_of_ble_eq_true rfl) rfl ?_
  intro p e s m args below meth c A C hr hnm
  have w_0 : ∀ w ∈ u_ws RX5 TX5 29, w ∈ wsX5_perhaps := by decide +kernel
  have w_1 : Cond.fieldLink RX5 97 (TX5 12).1 (TX5 12).2.1 (TX5 12).2.2.1 ∈ wsX5_perhaps := by decide +kernel
  refine g_aloadn C dX5_perhaps_0 0 rfl rfl ?_
  refine g_get C fx5 w_0 0 12 (v := .int 0) rfl (by decide) w_1 rfl dX5_perhaps_1 ?_
  refine g_if_neF C 22 dX5_perhaps_4 rfl (by decide) ?_
  refine g_iloadn C dX5_perhaps_7 1 rfl rfl ?_
  refine g_if_eqT C 22 dX5_perhaps_8 rfl (by decide) ?_
  exact g_vret C () hr dX5_perhaps_22 (Nat.le_of_ble_eq_true rfl) (Nat.le_of_ble_eq_true rfl) rfl (trivial)

set_option maxRecDepth 100000 in
set_option maxHeartbeats 4000000 in
theorem k_perY (l : Launch) (D : va_G) (q : Nat → ClassId) (tt : Nat → Nat) (a : Nat → Nat) (v : MC) (n : Nat) (f : Nat) (at_ : Nat) (hi_ : Int32) (htn : (m_taped v) = nI n) (hn2 : n ≤ 200) (hU : TPU (m_tape v) n) (hf : f ≤ n) (hat : at_ < 47) (hb : nbP (m_tape v) n (FB (m_tape v) n (EN (m_tape v) n f)) 0 hi_) : MV l D q tt yX5_perhaps wsX5_perhaps ({ frames := 4, cells := 0, slots := 0, locals := 87 } : Room) [.ref (a 0), .int 1, .int (nI at_), .int hi_] (mw q a ((m_s v), (m_held v), (m_aside v), (m_before v), (m_untried v), (m_isHeld v), (m_tape v), (m_taped v), (nI (kdT (m_tape v) n f)), (nI f), (nI (EN (m_tape v) n f)), (vlT (m_tape v) n f), 0, (m_heard v), (m_isMoved v), (m_rows v), (m_rowN v), (m_sortOf v), (m_sizeOf v), (m_numbers v), (m_holdsWhat v), (m_holdsWhich v), (m_holdsMany v), (m_bodies v), (m_ran v), (m_actKind v), (m_actN v), (m_actA v), (m_isParted v))) (fun (u : Unit) => True) (fun (_ : Unit) => (mw q a ((upd (m_s v) at_ (vlT (m_tape v) n (FB (m_tape v) n (EN (m_tape v) n f)))), (m_held v), (m_aside v), (m_before v), (m_untried v), (m_isHeld v), (m_tape v), (m_taped v), (nI (kdT (m_tape v) n (FB (m_tape v) n (EN (m_tape v) n (FB (m_tape v) n (EN (m_tape v) n f)))))), (nI (FB (m_tape v) n (EN (m_tape v) n (FB (m_tape v) n (EN (m_tape v) n f))))), (nI (EN (m_tape v) n (FB (m_tape v) n (EN (m_tape v) n (FB (m_tape v) n (EN (m_tape v) n f)))))), (vlT (m_tape v) n (FB (m_tape v) n (EN (m_tape v) n (FB (m_tape v) n (EN (m_tape v) n f))))), 0, (m_heard v), (m_isMoved v), (m_rows v), (m_rowN v), (m_sortOf v), (m_sizeOf v), (m_numbers v), (m_holdsWhat v), (m_holdsWhich v), (m_holdsMany v), (m_bodies v), (m_ran v), (m_actKind v), (m_actN v), (m_actA v), (m_isParted v)))) 0 0 := by
  refine MV.of RX5 [(0, .ref (a 0)), (1, .int 1), (2, .int (nI at_)), (3, .int hi_)] (by decide) rfl rfl (Nat.le_of_ble_eq_true rfl) rfl ?_
  intro p e s m args below meth c A C hr hnm
  have w_0 : ∀ w ∈ u_ws RX5 TX5 29, w ∈ wsX5_perhaps := by decide +kernel
  have w_1 : Cond.fieldLink RX5 97 (TX5 12).1 (TX5 12).2.1 (TX5 12).2.2.1 ∈ wsX5_perhaps := by decide +kernel
  have hnx := nx_le (u := (m_tape v)) hf
  have hen := en_le (u := (m_tape v)) hf
  refine g_aloadn C dX5_perhaps_0 0 rfl rfl ?_
  refine g_get C fx5 w_0 0 12 (v := .int 0) rfl (by decide) w_1 rfl dX5_perhaps_1 ?_
  refine g_if_neF C 22 dX5_perhaps_4 rfl (by decide) ?_
  refine g_iloadn C dX5_perhaps_7 1 rfl rfl ?_
  refine g_if_eqF C 22 dX5_perhaps_8 rfl (by decide) ?_
  refine g_aloadn C dX5_perhaps_11 0 rfl rfl ?_
  refine g_callAv C (rd_V C (k_X5_nextToken l D q tt a ((m_s v), (m_held v), (m_aside v), (m_before v), (m_untried v), (m_isHeld v), (m_tape v), (m_taped v), (nI (kdT (m_tape v) n f)), (nI f), (m_to v), (vlT (m_tape v) n f), 0, (m_heard v), (m_isMoved v), (m_rows v), (m_rowN v), (m_sortOf v), (m_sizeOf v), (m_numbers v), (m_holdsWhat v), (m_holdsWhich v), (m_holdsMany v), (m_bodies v), (m_ran v), (m_actKind v), (m_actN v), (m_actA v), (m_isParted v)) n (EN (m_tape v) n f) (by first | assumption | omega) (by first | assumption | omega) (by first | assumption | omega) hen.2) gX5_perhaps_X5_nextToken rfl rfl rfl 0 ok_X5_nextToken rfl 0 rfl rfl (rest := []) rfl rfl (Nat.le_of_ble_eq_true rfl) dX5_perhaps_12 ⟨(Nat.le_of_ble_eq_true rfl), (Nat.le_of_ble_eq_true rfl)⟩ ⟨(Nat.le_of_ble_eq_true rfl), (Nat.le_of_ble_eq_true rfl)⟩) (fun _ h_12 => ?_)
  refine g_wsc (mw q a ((m_s v), (m_held v), (m_aside v), (m_before v), (m_untried v), (m_isHeld v), (m_tape v), (m_taped v), (nI (kdT (m_tape v) n (FB (m_tape v) n (EN (m_tape v) n f)))), (nI (FB (m_tape v) n (EN (m_tape v) n f))), (nI (EN (m_tape v) n (FB (m_tape v) n (EN (m_tape v) n f)))), (vlT (m_tape v) n (FB (m_tape v) n (EN (m_tape v) n f))), 0, (m_heard v), (m_isMoved v), (m_rows v), (m_rowN v), (m_sortOf v), (m_sizeOf v), (m_numbers v), (m_holdsWhat v), (m_holdsWhich v), (m_holdsMany v), (m_bodies v), (m_ran v), (m_actKind v), (m_actN v), (m_actA v), (m_isParted v))) rfl ?_
  refine g_aloadn C dX5_perhaps_15 0 rfl rfl ?_
  refine g_iloadn C dX5_perhaps_16 2 rfl rfl ?_
  refine g_iconst C 0 dX5_perhaps_17 (by decide) ?_
  refine g_iloadn C dX5_perhaps_18 3 rfl rfl ?_
  refine g_callAv C (rd_V C (k_numY l D q tt a v n (FB (m_tape v) n (EN (m_tape v) n f)) at_ 0 hi_ (by first | assumption | omega) (by first | assumption | omega) (by first | assumption | omega) hnx.2 (by first | assumption | omega) (by first | assumption | omega)) gX5_perhaps_X5_numberTo rfl rfl rfl 3 ok_X5_numberTo rfl 0 rfl rfl (rest := []) rfl rfl (Nat.le_of_ble_eq_true rfl) dX5_perhaps_19 ⟨(Nat.le_of_ble_eq_true rfl), (Nat.le_of_ble_eq_true rfl)⟩ ⟨(Nat.le_of_ble_eq_true rfl), (Nat.le_of_ble_eq_true rfl)⟩) (fun _ h_19 => ?_)
  exact g_vret C () hr dX5_perhaps_22 (Nat.le_of_ble_eq_true rfl) (Nat.le_of_ble_eq_true rfl) rfl (trivial)

set_option maxRecDepth 100000 in
set_option maxHeartbeats 4000000 in
theorem k_perN (l : Launch) (D : va_G) (q : Nat → ClassId) (tt : Nat → Nat) (a : Nat → Nat) (v : MC) (n : Nat) (f : Nat) (x1 : Int32) (hi_ : Int32) (htn : (m_taped v) = nI n) (hn2 : n ≤ 200) (hU : TPU (m_tape v) n) (hf : f ≤ n) (hb : ¬ nbP (m_tape v) n (FB (m_tape v) n (EN (m_tape v) n f)) 0 hi_) : MV l D q tt yX5_perhaps wsX5_perhaps ({ frames := 2, cells := 0, slots := 0, locals := 45 } : Room) [.ref (a 0), .int 1, .int x1, .int hi_] (mw q a ((m_s v), (m_held v), (m_aside v), (m_before v), (m_untried v), (m_isHeld v), (m_tape v), (m_taped v), (nI (kdT (m_tape v) n f)), (nI f), (nI (EN (m_tape v) n f)), (vlT (m_tape v) n f), 0, (m_heard v), (m_isMoved v), (m_rows v), (m_rowN v), (m_sortOf v), (m_sizeOf v), (m_numbers v), (m_holdsWhat v), (m_holdsWhich v), (m_holdsMany v), (m_bodies v), (m_ran v), (m_actKind v), (m_actN v), (m_actA v), (m_isParted v))) (fun (u : Unit) => True) (fun (_ : Unit) => (mw q a ((m_s v), (m_held v), (m_aside v), (m_before v), (m_untried v), (m_isHeld v), (m_tape v), (m_taped v), (nI (kdT (m_tape v) n (FB (m_tape v) n (EN (m_tape v) n f)))), (nI (FB (m_tape v) n (EN (m_tape v) n f))), (nI (EN (m_tape v) n (FB (m_tape v) n (EN (m_tape v) n f)))), (vlT (m_tape v) n (FB (m_tape v) n (EN (m_tape v) n f))), 1, (m_heard v), (m_isMoved v), (m_rows v), (m_rowN v), (m_sortOf v), (m_sizeOf v), (m_numbers v), (m_holdsWhat v), (m_holdsWhich v), (m_holdsMany v), (m_bodies v), (m_ran v), (m_actKind v), (m_actN v), (m_actA v), (m_isParted v)))) 0 0 := by
  refine MV.of RX5 [(0, .ref (a 0)), (1, .int 1), (2, .int x1), (3, .int hi_)] (by decide) rfl rfl (Nat.le_of_ble_eq_true rfl) rfl ?_
  intro p e s m args below meth c A C hr hnm
  have w_0 : ∀ w ∈ u_ws RX5 TX5 29, w ∈ wsX5_perhaps := by decide +kernel
  have w_1 : Cond.fieldLink RX5 97 (TX5 12).1 (TX5 12).2.1 (TX5 12).2.2.1 ∈ wsX5_perhaps := by decide +kernel
  have hnx := nx_le (u := (m_tape v)) hf
  have hen := en_le (u := (m_tape v)) hf
  refine g_aloadn C dX5_perhaps_0 0 rfl rfl ?_
  refine g_get C fx5 w_0 0 12 (v := .int 0) rfl (by decide) w_1 rfl dX5_perhaps_1 ?_
  refine g_if_neF C 22 dX5_perhaps_4 rfl (by decide) ?_
  refine g_iloadn C dX5_perhaps_7 1 rfl rfl ?_
  refine g_if_eqF C 22 dX5_perhaps_8 rfl (by decide) ?_
  refine g_aloadn C dX5_perhaps_11 0 rfl rfl ?_
  refine g_callAv C (rd_V C (k_X5_nextToken l D q tt a ((m_s v), (m_held v), (m_aside v), (m_before v), (m_untried v), (m_isHeld v), (m_tape v), (m_taped v), (nI (kdT (m_tape v) n f)), (nI f), (m_to v), (vlT (m_tape v) n f), 0, (m_heard v), (m_isMoved v), (m_rows v), (m_rowN v), (m_sortOf v), (m_sizeOf v), (m_numbers v), (m_holdsWhat v), (m_holdsWhich v), (m_holdsMany v), (m_bodies v), (m_ran v), (m_actKind v), (m_actN v), (m_actA v), (m_isParted v)) n (EN (m_tape v) n f) (by first | assumption | omega) (by first | assumption | omega) (by first | assumption | omega) hen.2) gX5_perhaps_X5_nextToken rfl rfl rfl 0 ok_X5_nextToken rfl 0 rfl rfl (rest := []) rfl rfl (Nat.le_of_ble_eq_true rfl) dX5_perhaps_12 ⟨(Nat.le_of_ble_eq_true rfl), (Nat.le_of_ble_eq_true rfl)⟩ ⟨(Nat.le_of_ble_eq_true rfl), (Nat.le_of_ble_eq_true rfl)⟩) (fun _ h_12 => ?_)
  refine g_wsc (mw q a ((m_s v), (m_held v), (m_aside v), (m_before v), (m_untried v), (m_isHeld v), (m_tape v), (m_taped v), (nI (kdT (m_tape v) n (FB (m_tape v) n (EN (m_tape v) n f)))), (nI (FB (m_tape v) n (EN (m_tape v) n f))), (nI (EN (m_tape v) n (FB (m_tape v) n (EN (m_tape v) n f)))), (vlT (m_tape v) n (FB (m_tape v) n (EN (m_tape v) n f))), 0, (m_heard v), (m_isMoved v), (m_rows v), (m_rowN v), (m_sortOf v), (m_sizeOf v), (m_numbers v), (m_holdsWhat v), (m_holdsWhich v), (m_holdsMany v), (m_bodies v), (m_ran v), (m_actKind v), (m_actN v), (m_actA v), (m_isParted v))) rfl ?_
  refine g_aloadn C dX5_perhaps_15 0 rfl rfl ?_
  refine g_iloadn C dX5_perhaps_16 2 rfl rfl ?_
  refine g_iconst C 0 dX5_perhaps_17 (by decide) ?_
  refine g_iloadn C dX5_perhaps_18 3 rfl rfl ?_
  refine g_callAv C (rd_V C (k_numN l D q tt a v n (FB (m_tape v) n (EN (m_tape v) n f)) x1 0 hi_ (by first | assumption | omega) (by first | assumption | omega) (by first | assumption | omega) hnx.2 (by first | assumption | omega)) gX5_perhaps_X5_numberTo rfl rfl rfl 3 ok_X5_numberTo rfl 0 rfl rfl (rest := []) rfl rfl (Nat.le_of_ble_eq_true rfl) dX5_perhaps_19 ⟨(Nat.le_of_ble_eq_true rfl), (Nat.le_of_ble_eq_true rfl)⟩ ⟨(Nat.le_of_ble_eq_true rfl), (Nat.le_of_ble_eq_true rfl)⟩) (fun _ h_19 => ?_)
  exact g_vret C () hr dX5_perhaps_22 (Nat.le_of_ble_eq_true rfl) (Nat.le_of_ble_eq_true rfl) rfl (trivial)

