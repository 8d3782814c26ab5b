set_option maxRecDepth 100000 in
set_option maxHeartbeats 4000000 in
theorem k_needsW (l : Launch) (D : va_G) (q : Nat → ClassId) (tt : Nat → Nat) (a : Nat → Nat) (v : MC) (z : Int32)  : MV l D q tt yX5_needs wsX5_needs ({ frames := 0, cells := 0, slots := 0, locals := 0 } : Room) [.ref (a 0), .int z] (mw q a ((m_s v), (m_held v), (m_aside v), (m_before v), (m_untried v), (m_isHeld v), (m_tape v), (m_taped v), (m_token v), (m_from v), (m_to v), (m_value v), 1, (m_heard v), (m_isMoved v), (m_rows v), (m_rowN v), (m_sortOf v), (m_sizeOf v), (m_numbers v), (m_holdsWhat v), (m_holdsWhich v), (m_holdsMany v), (m_bodies v), (m_ran v), (m_actKind v), (m_actN v), (m_actA v), (m_isParted v))) (fun (u : Unit) => True) (fun (_ : Unit) => (mw q a ((m_s v), (m_held v), (m_aside v), (m_before v), (m_untried v), (m_isHeld v), (m_tape v), (m_taped v), (m_token v), (m_from v), (m_to v), (m_value v), 1, (m_heard v), (m_isMoved v), (m_rows v), (m_rowN v), (m_sortOf v), (m_sizeOf v), (m_numbers v), (m_holdsWhat v), (m_holdsWhich v), (m_holdsMany v), (m_bodies v), (m_ran v), (m_actKind v), (m_actN v), (m_actA v), (m_isParted v)))) 0 0 := by
  refine MV.of RX5 [(0, .ref (a 0)), (1, .int z)] (by decide) rfl rfl (Nat.le_of_ble_eq_true rfl) rfl ?_
  intro p e s m args below meth c A C hr hnm
  have w_0 : ∀ w ∈ u_ws RX5 TX5 29, w ∈ wsX5_needs := by decide +kernel
  have w_1 : Cond.fieldLink RX5 97 (TX5 12).1 (TX5 12).2.1 (TX5 12).2.2.1 ∈ wsX5_needs := by decide +kernel
  refine g_aloadn C dX5_needs_0 0 rfl rfl ?_
  refine g_aloadn C dX5_needs_1 0 rfl rfl ?_
  refine g_get C fx5 w_0 0 12 (v := .int 1) rfl (by decide) w_1 rfl dX5_needs_2 ?_
  refine g_if_neT C 12 dX5_needs_5 rfl (by decide) ?_
  refine g_iconst C 1 dX5_needs_12 (by decide) ?_
  refine g_goto C 17 dX5_needs_13 rfl ?_
  refine g_put C fx5 w_0 0 12 rfl (by decide) w_1 rfl rfl rfl (Nat.le_of_ble_eq_true rfl) dX5_needs_17 (mw q a ((m_s v), (m_held v), (m_aside v), (m_before v), (m_untried v), (m_isHeld v), (m_tape v), (m_taped v), (m_token v), (m_from v), (m_to v), (m_value v), 1, (m_heard v), (m_isMoved v), (m_rows v), (m_rowN v), (m_sortOf v), (m_sizeOf v), (m_numbers v), (m_holdsWhat v), (m_holdsWhich v), (m_holdsMany v), (m_bodies v), (m_ran v), (m_actKind v), (m_actN v), (m_actA v), (m_isParted v))) (by dsimp only [mw, List.set, m_s, m_held, m_aside, m_before, m_untried, m_isHeld, m_tape, m_taped, m_token, m_from, m_to, m_value, m_isWrong, m_heard, m_isMoved, m_rows, m_rowN, m_sortOf, m_sizeOf, m_numbers, m_holdsWhat, m_holdsWhich, m_holdsMany, m_bodies, m_ran, m_actKind, m_actN, m_actA, m_isParted]) ?_
  refine g_aloadn C dX5_needs_20 0 rfl rfl ?_
  refine g_get C fx5 w_0 0 12 (v := .int 1) rfl (by decide) w_1 rfl dX5_needs_21 ?_
  refine g_if_neT C 31 dX5_needs_24 rfl (by decide) ?_
  exact g_vret C () hr dX5_needs_31 (Nat.le_of_ble_eq_true rfl) (Nat.le_of_ble_eq_true rfl) rfl (trivial)

set_option maxRecDepth 100000 in
set_option maxHeartbeats 4000000 in
theorem k_needsN (l : Launch) (D : va_G) (q : Nat → ClassId) (tt : Nat → Nat) (a : Nat → Nat) (v : MC)  : MV l D q tt yX5_needs wsX5_needs ({ frames := 0, cells := 0, slots := 0, locals := 0 } : Room) [.ref (a 0), .int 0] (mw q a ((m_s v), (m_held v), (m_aside v), (m_before v), (m_untried v), (m_isHeld v), (m_tape v), (m_taped v), (m_token v), (m_from v), (m_to v), (m_value v), 0, (m_heard v), (m_isMoved v), (m_rows v), (m_rowN v), (m_sortOf v), (m_sizeOf v), (m_numbers v), (m_holdsWhat v), (m_holdsWhich v), (m_holdsMany v), (m_bodies v), (m_ran v), (m_actKind v), (m_actN v), (m_actA v), (m_isParted v))) (fun (u : Unit) => True) (fun (_ : Unit) => (mw q a ((m_s v), (m_held v), (m_aside v), (m_before v), (m_untried v), (m_isHeld v), (m_tape v), (m_taped v), (m_token v), (m_from v), (m_to v), (m_value v), 1, (m_heard v), (m_isMoved v), (m_rows v), (m_rowN v), (m_sortOf v), (m_sizeOf v), (m_numbers v), (m_holdsWhat v), (m_holdsWhich v), (m_holdsMany v), (m_bodies v), (m_ran v), (m_actKind v), (m_actN v), (m_actA v), (m_isParted v)))) 0 0 := by
  refine MV.of RX5 [(0, .ref (a 0)), (1, .int 0)] (by decide) rfl rfl (Nat.le_of_ble_eq_true rfl) rfl ?_
  intro p e s m args below meth c A C hr hnm
  have w_0 : ∀ w ∈ u_ws RX5 TX5 29, w ∈ wsX5_needs := by decide +kernel
  have w_1 : Cond.fieldLink RX5 97 (TX5 12).1 (TX5 12).2.1 (TX5 12).2.2.1 ∈ wsX5_needs := by decide +kernel
  refine g_aloadn C dX5_needs_0 0 rfl rfl ?_
  refine g_aloadn C dX5_needs_1 0 rfl rfl ?_
  refine g_get C fx5 w_0 0 12 (v := .int 0) rfl (by decide) w_1 rfl dX5_needs_2 ?_
  refine g_if_neF C 12 dX5_needs_5 rfl (by decide) ?_
  refine g_iloadn C dX5_needs_8 1 rfl rfl ?_
  refine g_if_neF C 16 dX5_needs_9 rfl (by decide) ?_
  refine g_iconst C 1 dX5_needs_12 (by decide) ?_
  refine g_goto C 17 dX5_needs_13 rfl ?_
  refine g_put C fx5 w_0 0 12 rfl (by decide) w_1 rfl rfl rfl (Nat.le_of_ble_eq_true rfl) dX5_needs_17 (mw q a ((m_s v), (m_held v), (m_aside v), (m_before v), (m_untried v), (m_isHeld v), (m_tape v), (m_taped v), (m_token v), (m_from v), (m_to v), (m_value v), 1, (m_heard v), (m_isMoved v), (m_rows v), (m_rowN v), (m_sortOf v), (m_sizeOf v), (m_numbers v), (m_holdsWhat v), (m_holdsWhich v), (m_holdsMany v), (m_bodies v), (m_ran v), (m_actKind v), (m_actN v), (m_actA v), (m_isParted v))) (by dsimp only [mw, List.set, m_s, m_held, m_aside, m_before, m_untried, m_isHeld, m_tape, m_taped, m_token, m_from, m_to, m_value, m_isWrong, m_heard, m_isMoved, m_rows, m_rowN, m_sortOf, m_sizeOf, m_numbers, m_holdsWhat, m_holdsWhich, m_holdsMany, m_bodies, m_ran, m_actKind, m_actN, m_actA, m_isParted]) ?_
  refine g_aloadn C dX5_needs_20 0 rfl rfl ?_
  refine g_get C fx5 w_0 0 12 (v := .int 1) rfl (by decide) w_1 rfl dX5_needs_21 ?_
  refine g_if_neT C 31 dX5_needs_24 rfl (by decide) ?_
  exact g_vret C () hr dX5_needs_31 (Nat.le_of_ble_eq_true rfl) (Nat.le_of_ble_eq_true rfl) rfl (trivial)

set_option maxRecDepth 100000 in
set_option maxHeartbeats 4000000 in
theorem k_needsY (l : Launch) (D : va_G) (q : Nat → ClassId) (tt : Nat → Nat) (a : Nat → Nat) (v : MC) (n : Nat) (f : Nat) (htn : (m_taped v) = nI n) (hn2 : n ≤ 200) (hU : TPU (m_tape v) n) (hf : f ≤ n) : MV l D q tt yX5_needs wsX5_needs ({ frames := 2, cells := 0, slots := 0, locals := 42 } : Room) [.ref (a 0), .int 1] (mw q a ((m_s v), (m_held v), (m_aside v), (m_before v), (m_untried v), (m_isHeld v), (m_tape v), (m_taped v), (nI (kdT (m_tape v) n f)), (nI f), (nI (EN (m_tape v) n f)), (vlT (m_tape v) n f), 0, (m_heard v), (m_isMoved v), (m_rows v), (m_rowN v), (m_sortOf v), (m_sizeOf v), (m_numbers v), (m_holdsWhat v), (m_holdsWhich v), (m_holdsMany v), (m_bodies v), (m_ran v), (m_actKind v), (m_actN v), (m_actA v), (m_isParted v))) (fun (u : Unit) => True) (fun (_ : Unit) => (mw q a ((m_s v), (m_held v), (m_aside v), (m_before v), (m_untried v), (m_isHeld v), (m_tape v), (m_taped v), (nI (kdT (m_tape v) n (FB (m_tape v) n (EN (m_tape v) n f)))), (nI (FB (m_tape v) n (EN (m_tape v) n f))), (nI (EN (m_tape v) n (FB (m_tape v) n (EN (m_tape v) n f)))), (vlT (m_tape v) n (FB (m_tape v) n (EN (m_tape v) n f))), 0, (m_heard v), (m_isMoved v), (m_rows v), (m_rowN v), (m_sortOf v), (m_sizeOf v), (m_numbers v), (m_holdsWhat v), (m_holdsWhich v), (m_holdsMany v), (m_bodies v), (m_ran v), (m_actKind v), (m_actN v), (m_actA v), (m_isParted v)))) 0 0 := by
  refine MV.of RX5 [(0, .ref (a 0)), (1, .int 1)] (by decide) rfl rfl (Nat.le_of_ble_eq_true rfl) rfl ?_
  intro p e s m args below meth c A C hr hnm
  have w_0 : ∀ w ∈ u_ws RX5 TX5 29, w ∈ wsX5_needs := by decide +kernel
  have w_1 : Cond.fieldLink RX5 97 (TX5 12).1 (TX5 12).2.1 (TX5 12).2.2.1 ∈ wsX5_needs := by decide +kernel
  have hen := en_le (u := (m_tape v)) hf
  refine g_aloadn C dX5_needs_0 0 rfl rfl ?_
  refine g_aloadn C dX5_needs_1 0 rfl rfl ?_
  refine g_get C fx5 w_0 0 12 (v := .int 0) rfl (by decide) w_1 rfl dX5_needs_2 ?_
  refine g_if_neF C 12 dX5_needs_5 rfl (by decide) ?_
  refine g_iloadn C dX5_needs_8 1 rfl rfl ?_
  refine g_if_neT C 16 dX5_needs_9 rfl (by decide) ?_
  refine g_iconst C 0 dX5_needs_16 (by decide) ?_
  refine g_put C fx5 w_0 0 12 rfl (by decide) w_1 rfl rfl rfl (Nat.le_of_ble_eq_true rfl) dX5_needs_17 (mw q a ((m_s v), (m_held v), (m_aside v), (m_before v), (m_untried v), (m_isHeld v), (m_tape v), (m_taped v), (nI (kdT (m_tape v) n f)), (nI f), (nI (EN (m_tape v) n f)), (vlT (m_tape v) n f), 0, (m_heard v), (m_isMoved v), (m_rows v), (m_rowN v), (m_sortOf v), (m_sizeOf v), (m_numbers v), (m_holdsWhat v), (m_holdsWhich v), (m_holdsMany v), (m_bodies v), (m_ran v), (m_actKind v), (m_actN v), (m_actA v), (m_isParted v))) (by dsimp only [mw, List.set, m_s, m_held, m_aside, m_before, m_untried, m_isHeld, m_tape, m_taped, m_token, m_from, m_to, m_value, m_isWrong, m_heard, m_isMoved, m_rows, m_rowN, m_sortOf, m_sizeOf, m_numbers, m_holdsWhat, m_holdsWhich, m_holdsMany, m_bodies, m_ran, m_actKind, m_actN, m_actA, m_isParted]) ?_
  refine g_aloadn C dX5_needs_20 0 rfl rfl ?_
  refine g_get C fx5 w_0 0 12 (v := .int 0) rfl (by decide) w_1 rfl dX5_needs_21 ?_
  refine g_if_neF C 31 dX5_needs_24 rfl (by decide) ?_
  refine g_aloadn C dX5_needs_27 0 rfl rfl ?_
  refine g_callAv C (rd_V C (k_X5_nextToken l D q tt a ((m_s v), (m_held v), (m_aside v), (m_before v), (m_untried v), (m_isHeld v), (m_tape v), (m_taped v), (nI (kdT (m_tape v) n f)), (nI f), (m_to v), (vlT (m_tape v) n f), 0, (m_heard v), (m_isMoved v), (m_rows v), (m_rowN v), (m_sortOf v), (m_sizeOf v), (m_numbers v), (m_holdsWhat v), (m_holdsWhich v), (m_holdsMany v), (m_bodies v), (m_ran v), (m_actKind v), (m_actN v), (m_actA v), (m_isParted v)) n (EN (m_tape v) n f) (by first | assumption | omega) (by first | assumption | omega) (by first | assumption | omega) hen.2) gX5_needs_X5_nextToken rfl rfl rfl 0 ok_X5_nextToken rfl 0 rfl rfl (rest := []) rfl rfl (Nat.le_of_ble_eq_true rfl) dX5_needs_28 ⟨(Nat.le_of_ble_eq_true rfl), (Nat.le_of_ble_eq_true rfl)⟩ ⟨(Nat.le_of_ble_eq_true rfl), (Nat.le_of_ble_eq_true rfl)⟩) (fun _ h_28 => ?_)
  refine g_wsc (mw q a ((m_s v), (m_held v), (m_aside v), (m_before v), (m_untried v), (m_isHeld v), (m_tape v), (m_taped v), (nI (kdT (m_tape v) n (FB (m_tape v) n (EN (m_tape v) n f)))), (nI (FB (m_tape v) n (EN (m_tape v) n f))), (nI (EN (m_tape v) n (FB (m_tape v) n (EN (m_tape v) n f)))), (vlT (m_tape v) n (FB (m_tape v) n (EN (m_tape v) n f))), 0, (m_heard v), (m_isMoved v), (m_rows v), (m_rowN v), (m_sortOf v), (m_sizeOf v), (m_numbers v), (m_holdsWhat v), (m_holdsWhich v), (m_holdsMany v), (m_bodies v), (m_ran v), (m_actKind v), (m_actN v), (m_actA v), (m_isParted v))) rfl ?_
  exact g_vret C () hr dX5_needs_31 (Nat.le_of_ble_eq_true rfl) (Nat.le_of_ble_eq_true rfl) rfl (trivial)

set_option maxRecDepth 100000 in
set_option maxHeartbeats 4000000 in
theorem k_X5_isName (l : Launch) (D : va_G) (q : Nat → ClassId) (tt : Nat → Nat) (a : Nat → Nat) (v : MC) (n : Nat) (f : Nat) (L : Nat) (b0 : Int32) (b1 : Int32) (b2 : Int32) (b3 : Int32) (htn : (m_taped v) = nI n) (hn2 : n ≤ 200) (hU : TPU (m_tape v) n) (hf : f ≤ n) (hL : 3 ≤ L) (hL5 : L ≤ 5) : MI l D q tt yX5_isName wsX5_isName ({ frames := 1, cells := 0, slots := 0, locals := 21 } : Room) [.ref (a 0), .int (nI L), .int b0, .int b1, .int b2, .int b3] (mw q a ((m_s v), (m_held v), (m_aside v), (m_before v), (m_untried v), (m_isHeld v), (m_tape v), (m_taped v), (nI (kdT (m_tape v) n f)), (nI f), (nI (EN (m_tape v) n f)), (vlT (m_tape v) n f), (m_isWrong v), (m_heard v), (m_isMoved v), (m_rows v), (m_rowN v), (m_sortOf v), (m_sizeOf v), (m_numbers v), (m_holdsWhat v), (m_holdsWhich v), (m_holdsMany v), (m_bodies v), (m_ran v), (m_actKind v), (m_actN v), (m_actA v), (m_isParted v))) (fun (r : Int32) (u : Unit) => r = (bI (naP (m_tape v) n f L b0 b1 b2 b3))) (fun (_ : Unit) => (mw q a ((m_s v), (m_held v), (m_aside v), (m_before v), (m_untried v), (m_isHeld v), (m_tape v), (m_taped v), (nI (kdT (m_tape v) n f)), (nI f), (nI (EN (m_tape v) n f)), (vlT (m_tape v) n f), (m_isWrong v), (m_heard v), (m_isMoved v), (m_rows v), (m_rowN v), (m_sortOf v), (m_sizeOf v), (m_numbers v), (m_holdsWhat v), (m_holdsWhich v), (m_holdsMany v), (m_bodies v), (m_ran v), (m_actKind v), (m_actN v), (m_actA v), (m_isParted v)))) 0 0 := by
  refine MI.of RX5 [(0, .ref (a 0)), (1, .int (nI L)), (2, .int b0), (3, .int b1), (4, .int b2), (5, .int b3)] (by decide) rfl rfl (Nat.le_of_ble_eq_true rfl) rfl ?_
  intro p e s m args below meth c A C hr hnm
  have w_0 : ∀ w ∈ u_ws RX5 TX5 29, w ∈ wsX5_isName := by decide +kernel
  have w_1 : Cond.fieldLink RX5 91 (TX5 8).1 (TX5 8).2.1 (TX5 8).2.2.1 ∈ wsX5_isName := by decide +kernel
  have w_2 : Cond.fieldLink RX5 74 (TX5 10).1 (TX5 10).2.1 (TX5 10).2.2.1 ∈ wsX5_isName := by decide +kernel
  have w_3 : Cond.fieldLink RX5 77 (TX5 9).1 (TX5 9).2.1 (TX5 9).2.2.1 ∈ wsX5_isName := by decide +kernel
  have hen := en_le (u := (m_tape v)) hf
  refine g_aloadn C dX5_isName_0 0 rfl rfl ?_
  refine g_get C fx5 w_0 0 8 (v := .int (nI (kdT (m_tape v) n f))) rfl (by decide) w_1 rfl dX5_isName_1 ?_
  refine g_iconst C 1 dX5_isName_4 (by decide) ?_
  refine g_icmpN_ne C 81 ((kdT (m_tape v) n f)) (1) dX5_isName_5 rfl (kd_b _ _ _) (by omega) (fun c_5 => ?_) (fun c_5 => ?_)
  · refine g_iconst C 0 dX5_isName_81 (by decide) ?_
    exact g_zret C () hr rfl dX5_isName_82 (Nat.le_of_ble_eq_true rfl) (Nat.le_of_ble_eq_true rfl) rfl ((bI_n (fun h => by first | exact c_5 h.1 | exact c_18 h.2.1 | exact c_30 h.2.2.1 | exact c_44 h.2.2.2.1 | exact c_59 h.2.2.2.2.1 | exact c_74 h.2.2.2.2.2)).symm)
  · refine g_aloadn C dX5_isName_8 0 rfl rfl ?_
    refine g_get C fx5 w_0 0 10 (v := .int (nI (EN (m_tape v) n f))) rfl (by decide) w_2 rfl dX5_isName_9 ?_
    refine g_aloadn C dX5_isName_12 0 rfl rfl ?_
    refine g_get C fx5 w_0 0 9 (v := .int (nI f)) rfl (by decide) w_3 rfl dX5_isName_13 ?_
    refine g_isub C dX5_isName_16 ?_
    refine g_topci (nI (((EN (m_tape v) n f)) - f)) ((ix_sub rfl rfl (by omega))) ?_
    refine g_iloadn C dX5_isName_17 1 rfl rfl ?_
    refine g_icmpN_ne C 81 ((((EN (m_tape v) n f)) - f)) (L) dX5_isName_18 rfl (by omega) (by omega) (fun c_18 => ?_) (fun c_18 => ?_)
    · refine g_iconst C 0 dX5_isName_81 (by decide) ?_
      exact g_zret C () hr rfl dX5_isName_82 (Nat.le_of_ble_eq_true rfl) (Nat.le_of_ble_eq_true rfl) rfl ((bI_n (fun h => by first | exact c_5 h.1 | exact c_18 h.2.1 | exact c_30 h.2.2.1 | exact c_44 h.2.2.2.1 | exact c_59 h.2.2.2.2.1 | exact c_74 h.2.2.2.2.2)).symm)
    · refine g_aloadn C dX5_isName_21 0 rfl rfl ?_
      refine g_aloadn C dX5_isName_22 0 rfl rfl ?_
      refine g_get C fx5 w_0 0 9 (v := .int (nI f)) rfl (by decide) w_3 rfl dX5_isName_23 ?_
      refine g_callAi C (rd_V C (k_X5_byteAt l D q tt a ((m_s v), (m_held v), (m_aside v), (m_before v), (m_untried v), (m_isHeld v), (m_tape v), (m_taped v), (nI (kdT (m_tape v) n f)), (nI f), (nI (EN (m_tape v) n f)), (vlT (m_tape v) n f), (m_isWrong v), (m_heard v), (m_isMoved v), (m_rows v), (m_rowN v), (m_sortOf v), (m_sizeOf v), (m_numbers v), (m_holdsWhat v), (m_holdsWhich v), (m_holdsMany v), (m_bodies v), (m_ran v), (m_actKind v), (m_actN v), (m_actA v), (m_isParted v)) n f (by first | assumption | omega) (by first | assumption | omega) (by first | assumption | omega)) gX5_isName_X5_byteAt rfl rfl rfl 1 ok_X5_byteAt rfl 0 rfl rfl (rest := []) rfl rfl (Nat.le_of_ble_eq_true rfl) dX5_isName_26 ⟨(Nat.le_of_ble_eq_true rfl), (Nat.le_of_ble_eq_true rfl)⟩ ⟨(Nat.le_of_ble_eq_true rfl), (Nat.le_of_ble_eq_true rfl)⟩) (fun r_26 _ h_26 => ?_)
      obtain rfl := h_26
      refine g_topci (byT (m_tape v) n f) rfl ?_
      refine g_topci ((m_tape v) f) (by_in (by omega)) ?_
      refine g_iloadn C dX5_isName_29 2 rfl rfl ?_
      refine g_icmp_ne C 81 dX5_isName_30 rfl (fun c_30 => ?_) (fun c_30 => ?_)
      · refine g_iconst C 0 dX5_isName_81 (by decide) ?_
        exact g_zret C () hr rfl dX5_isName_82 (Nat.le_of_ble_eq_true rfl) (Nat.le_of_ble_eq_true rfl) rfl ((bI_n (fun h => by first | exact c_5 h.1 | exact c_18 h.2.1 | exact c_30 h.2.2.1 | exact c_44 h.2.2.2.1 | exact c_59 h.2.2.2.2.1 | exact c_74 h.2.2.2.2.2)).symm)
      · refine g_aloadn C dX5_isName_33 0 rfl rfl ?_
        refine g_aloadn C dX5_isName_34 0 rfl rfl ?_
        refine g_get C fx5 w_0 0 9 (v := .int (nI f)) rfl (by decide) w_3 rfl dX5_isName_35 ?_
        refine g_iconst C 1 dX5_isName_38 (by decide) ?_
        refine g_iadd C dX5_isName_39 ?_
        refine g_topci (nI (f + 1)) ((ix_add rfl rfl)) ?_
        refine g_callAi C (rd_V C (k_X5_byteAt l D q tt a ((m_s v), (m_held v), (m_aside v), (m_before v), (m_untried v), (m_isHeld v), (m_tape v), (m_taped v), (nI (kdT (m_tape v) n f)), (nI f), (nI (EN (m_tape v) n f)), (vlT (m_tape v) n f), (m_isWrong v), (m_heard v), (m_isMoved v), (m_rows v), (m_rowN v), (m_sortOf v), (m_sizeOf v), (m_numbers v), (m_holdsWhat v), (m_holdsWhich v), (m_holdsMany v), (m_bodies v), (m_ran v), (m_actKind v), (m_actN v), (m_actA v), (m_isParted v)) n (f + 1) (by first | assumption | omega) (by first | assumption | omega) (by first | assumption | omega)) gX5_isName_X5_byteAt rfl rfl rfl 1 ok_X5_byteAt rfl 0 rfl rfl (rest := []) rfl rfl (Nat.le_of_ble_eq_true rfl) dX5_isName_40 ⟨(Nat.le_of_ble_eq_true rfl), (Nat.le_of_ble_eq_true rfl)⟩ ⟨(Nat.le_of_ble_eq_true rfl), (Nat.le_of_ble_eq_true rfl)⟩) (fun r_40 _ h_40 => ?_)
        obtain rfl := h_40
        refine g_topci (byT (m_tape v) n (f + 1)) rfl ?_
        refine g_topci ((m_tape v) (f + 1)) (by_in (by omega)) ?_
        refine g_iloadn C dX5_isName_43 3 rfl rfl ?_
        refine g_icmp_ne C 81 dX5_isName_44 rfl (fun c_44 => ?_) (fun c_44 => ?_)
        · refine g_iconst C 0 dX5_isName_81 (by decide) ?_
          exact g_zret C () hr rfl dX5_isName_82 (Nat.le_of_ble_eq_true rfl) (Nat.le_of_ble_eq_true rfl) rfl ((bI_n (fun h => by first | exact c_5 h.1 | exact c_18 h.2.1 | exact c_30 h.2.2.1 | exact c_44 h.2.2.2.1 | exact c_59 h.2.2.2.2.1 | exact c_74 h.2.2.2.2.2)).symm)
        · refine g_aloadn C dX5_isName_47 0 rfl rfl ?_
          refine g_aloadn C dX5_isName_48 0 rfl rfl ?_
          refine g_get C fx5 w_0 0 9 (v := .int (nI f)) rfl (by decide) w_3 rfl dX5_isName_49 ?_
          refine g_iconst C 2 dX5_isName_52 (by decide) ?_
          refine g_iadd C dX5_isName_53 ?_
          refine g_topci (nI (f + 2)) ((ix_add rfl rfl)) ?_
          refine g_callAi C (rd_V C (k_X5_byteAt l D q tt a ((m_s v), (m_held v), (m_aside v), (m_before v), (m_untried v), (m_isHeld v), (m_tape v), (m_taped v), (nI (kdT (m_tape v) n f)), (nI f), (nI (EN (m_tape v) n f)), (vlT (m_tape v) n f), (m_isWrong v), (m_heard v), (m_isMoved v), (m_rows v), (m_rowN v), (m_sortOf v), (m_sizeOf v), (m_numbers v), (m_holdsWhat v), (m_holdsWhich v), (m_holdsMany v), (m_bodies v), (m_ran v), (m_actKind v), (m_actN v), (m_actA v), (m_isParted v)) n (f + 2) (by first | assumption | omega) (by first | assumption | omega) (by first | assumption | omega)) gX5_isName_X5_byteAt rfl rfl rfl 1 ok_X5_byteAt rfl 0 rfl rfl (rest := []) rfl rfl (Nat.le_of_ble_eq_true rfl) dX5_isName_54 ⟨(Nat.le_of_ble_eq_true rfl), (Nat.le_of_ble_eq_true rfl)⟩ ⟨(Nat.le_of_ble_eq_true rfl), (Nat.le_of_ble_eq_true rfl)⟩) (fun r_54 _ h_54 => ?_)
          obtain rfl := h_54
          refine g_topci (byT (m_tape v) n (f + 2)) rfl ?_
          refine g_topci ((m_tape v) (f + 2)) (by_in (by omega)) ?_
          refine g_iload C dX5_isName_57 4 rfl ?_
          refine g_icmp_ne C 81 dX5_isName_59 rfl (fun c_59 => ?_) (fun c_59 => ?_)
          · refine g_iconst C 0 dX5_isName_81 (by decide) ?_
            exact g_zret C () hr rfl dX5_isName_82 (Nat.le_of_ble_eq_true rfl) (Nat.le_of_ble_eq_true rfl) rfl ((bI_n (fun h => by first | exact c_5 h.1 | exact c_18 h.2.1 | exact c_30 h.2.2.1 | exact c_44 h.2.2.2.1 | exact c_59 h.2.2.2.2.1 | exact c_74 h.2.2.2.2.2)).symm)
          · refine g_aloadn C dX5_isName_62 0 rfl rfl ?_
            refine g_aloadn C dX5_isName_63 0 rfl rfl ?_
            refine g_get C fx5 w_0 0 10 (v := .int (nI (EN (m_tape v) n f))) rfl (by decide) w_2 rfl dX5_isName_64 ?_
            refine g_iconst C 1 dX5_isName_67 (by decide) ?_
            refine g_isub C dX5_isName_68 ?_
            refine g_topci (nI (((EN (m_tape v) n f)) - 1)) ((ix_sub rfl rfl (by omega))) ?_
            refine g_callAi C (rd_V C (k_X5_byteAt l D q tt a ((m_s v), (m_held v), (m_aside v), (m_before v), (m_untried v), (m_isHeld v), (m_tape v), (m_taped v), (nI (kdT (m_tape v) n f)), (nI f), (nI (EN (m_tape v) n f)), (vlT (m_tape v) n f), (m_isWrong v), (m_heard v), (m_isMoved v), (m_rows v), (m_rowN v), (m_sortOf v), (m_sizeOf v), (m_numbers v), (m_holdsWhat v), (m_holdsWhich v), (m_holdsMany v), (m_bodies v), (m_ran v), (m_actKind v), (m_actN v), (m_actA v), (m_isParted v)) n (((EN (m_tape v) n f)) - 1) (by first | assumption | omega) (by first | assumption | omega) (by first | assumption | omega)) gX5_isName_X5_byteAt rfl rfl rfl 1 ok_X5_byteAt rfl 0 rfl rfl (rest := []) rfl rfl (Nat.le_of_ble_eq_true rfl) dX5_isName_69 ⟨(Nat.le_of_ble_eq_true rfl), (Nat.le_of_ble_eq_true rfl)⟩ ⟨(Nat.le_of_ble_eq_true rfl), (Nat.le_of_ble_eq_true rfl)⟩) (fun r_69 _ h_69 => ?_)
            obtain rfl := h_69
            refine g_topci (byT (m_tape v) n (((EN (m_tape v) n f)) - 1)) rfl ?_
            refine g_topci ((m_tape v) (f + L - 1)) (by rw [by_in (by omega), show (EN (m_tape v) n f) - 1 = f + L - 1 by omega]) ?_
            refine g_iload C dX5_isName_72 5 rfl ?_
            refine g_icmp_ne C 81 dX5_isName_74 rfl (fun c_74 => ?_) (fun c_74 => ?_)
            · refine g_iconst C 0 dX5_isName_81 (by decide) ?_
              exact g_zret C () hr rfl dX5_isName_82 (Nat.le_of_ble_eq_true rfl) (Nat.le_of_ble_eq_true rfl) rfl ((bI_n (fun h => by first | exact c_5 h.1 | exact c_18 h.2.1 | exact c_30 h.2.2.1 | exact c_44 h.2.2.2.1 | exact c_59 h.2.2.2.2.1 | exact c_74 h.2.2.2.2.2)).symm)
            · refine g_iconst C 1 dX5_isName_77 (by decide) ?_
              refine g_goto C 82 dX5_isName_78 rfl ?_
              exact g_zret C () hr rfl dX5_isName_82 (Nat.le_of_ble_eq_true rfl) (Nat.le_of_ble_eq_true rfl) rfl ((bI_t ⟨c_5, c_18, c_30, c_44, c_59, c_74⟩).symm)

set_option maxRecDepth 100000 in
set_option maxHeartbeats 4000000 in
theorem k_X5_isFour (l : Launch) (D : va_G) (q : Nat → ClassId) (tt : Nat → Nat) (a : Nat → Nat) (v : MC) (n : Nat) (f : Nat) (b0 : Int32) (b1 : Int32) (b2 : Int32) (b3 : Int32) (htn : (m_taped v) = nI n) (hn2 : n ≤ 200) (hU : TPU (m_tape v) n) (hf : f ≤ n) : MI l D q tt yX5_isFour wsX5_isFour ({ frames := 2, cells := 0, slots := 0, locals := 46 } : Room) [.ref (a 0), .int b0, .int b1, .int b2, .int b3] (mw q a ((m_s v), (m_held v), (m_aside v), (m_before v), (m_untried v), (m_isHeld v), (m_tape v), (m_taped v), (nI (kdT (m_tape v) n f)), (nI f), (nI (EN (m_tape v) n f)), (vlT (m_tape v) n f), (m_isWrong v), (m_heard v), (m_isMoved v), (m_rows v), (m_rowN v), (m_sortOf v), (m_sizeOf v), (m_numbers v), (m_holdsWhat v), (m_holdsWhich v), (m_holdsMany v), (m_bodies v), (m_ran v), (m_actKind v), (m_actN v), (m_actA v), (m_isParted v))) (fun (r : Int32) (u : Unit) => r = (bI (naP (m_tape v) n f 4 b0 b1 b2 b3))) (fun (_ : Unit) => (mw q a ((m_s v), (m_held v), (m_aside v), (m_before v), (m_untried v), (m_isHeld v), (m_tape v), (m_taped v), (nI (kdT (m_tape v) n f)), (nI f), (nI (EN (m_tape v) n f)), (vlT (m_tape v) n f), (m_isWrong v), (m_heard v), (m_isMoved v), (m_rows v), (m_rowN v), (m_sortOf v), (m_sizeOf v), (m_numbers v), (m_holdsWhat v), (m_holdsWhich v), (m_holdsMany v), (m_bodies v), (m_ran v), (m_actKind v), (m_actN v), (m_actA v), (m_isParted v)))) 0 0 := by
  refine MI.of RX5 [(0, .ref (a 0)), (1, .int b0), (2, .int b1), (3, .int b2), (4, .int b3)] (by decide) rfl rfl (Nat.le_of_ble_eq_true rfl) rfl ?_
  intro p e s m args below meth c A C hr hnm
  refine g_aloadn C dX5_isFour_0 0 rfl rfl ?_
  refine g_iconst C 4 dX5_isFour_1 (by decide) ?_
  refine g_iloadn C dX5_isFour_2 1 rfl rfl ?_
  refine g_iloadn C dX5_isFour_3 2 rfl rfl ?_
  refine g_iloadn C dX5_isFour_4 3 rfl rfl ?_
  refine g_iload C dX5_isFour_5 4 rfl ?_
  refine g_callAi C (rd_V C (k_X5_isName l D q tt a v n f 4 b0 b1 b2 b3 (by first | assumption | omega) (by first | assumption | omega) (by first | assumption | omega) (by first | assumption | omega) (by first | assumption | omega) (by first | assumption | omega)) gX5_isFour_X5_isName rfl rfl rfl 5 ok_X5_isName rfl 0 rfl rfl (rest := []) rfl rfl (Nat.le_of_ble_eq_true rfl) dX5_isFour_7 ⟨(Nat.le_of_ble_eq_true rfl), (Nat.le_of_ble_eq_true rfl)⟩ ⟨(Nat.le_of_ble_eq_true rfl), (Nat.le_of_ble_eq_true rfl)⟩) (fun r_7 _ h_7 => ?_)
  obtain rfl := h_7
  exact g_zret C () hr bI_z dX5_isFour_10 (Nat.le_of_ble_eq_true rfl) (Nat.le_of_ble_eq_true rfl) rfl (rfl)

set_option maxRecDepth 100000 in
set_option maxHeartbeats 4000000 in
theorem k_X5_isFive (l : Launch) (D : va_G) (q : Nat → ClassId) (tt : Nat → Nat) (a : Nat → Nat) (v : MC) (n : Nat) (f : Nat) (b0 : Int32) (b1 : Int32) (b2 : Int32) (b3 : Int32) (b4 : Int32) (htn : (m_taped v) = nI n) (hn2 : n ≤ 200) (hU : TPU (m_tape v) n) (hf : f ≤ n) : MI l D q tt yX5_isFive wsX5_isFive ({ frames := 2, cells := 0, slots := 0, locals := 46 } : Room) [.ref (a 0), .int b0, .int b1, .int b2, .int b3, .int b4] (mw q a ((m_s v), (m_held v), (m_aside v), (m_before v), (m_untried v), (m_isHeld v), (m_tape v), (m_taped v), (nI (kdT (m_tape v) n f)), (nI f), (nI (EN (m_tape v) n f)), (vlT (m_tape v) n f), (m_isWrong v), (m_heard v), (m_isMoved v), (m_rows v), (m_rowN v), (m_sortOf v), (m_sizeOf v), (m_numbers v), (m_holdsWhat v), (m_holdsWhich v), (m_holdsMany v), (m_bodies v), (m_ran v), (m_actKind v), (m_actN v), (m_actA v), (m_isParted v))) (fun (r : Int32) (u : Unit) => r = (bI (naP (m_tape v) n f 5 b0 b1 b2 b4 ∧ (m_tape v) (f + 3) = b3))) (fun (_ : Unit) => (mw q a ((m_s v), (m_held v), (m_aside v), (m_before v), (m_untried v), (m_isHeld v), (m_tape v), (m_taped v), (nI (kdT (m_tape v) n f)), (nI f), (nI (EN (m_tape v) n f)), (vlT (m_tape v) n f), (m_isWrong v), (m_heard v), (m_isMoved v), (m_rows v), (m_rowN v), (m_sortOf v), (m_sizeOf v), (m_numbers v), (m_holdsWhat v), (m_holdsWhich v), (m_holdsMany v), (m_bodies v), (m_ran v), (m_actKind v), (m_actN v), (m_actA v), (m_isParted v)))) 0 0 := by
  refine MI.of RX5 [(0, .ref (a 0)), (1, .int b0), (2, .int b1), (3, .int b2), (4, .int b3), (5, .int b4)] (by decide) rfl rfl (Nat.le_of_ble_eq_true rfl) rfl ?_
  intro p e s m args below meth c A C hr hnm
  have w_0 : ∀ w ∈ u_ws RX5 TX5 29, w ∈ wsX5_isFive := by decide +kernel
  have w_1 : Cond.fieldLink RX5 77 (TX5 9).1 (TX5 9).2.1 (TX5 9).2.2.1 ∈ wsX5_isFive := by decide +kernel
  have hen := en_le (u := (m_tape v)) hf
  refine g_aloadn C dX5_isFive_0 0 rfl rfl ?_
  refine g_iconst C 5 dX5_isFive_1 (by decide) ?_
  refine g_iloadn C dX5_isFive_2 1 rfl rfl ?_
  refine g_iloadn C dX5_isFive_3 2 rfl rfl ?_
  refine g_iloadn C dX5_isFive_4 3 rfl rfl ?_
  refine g_iload C dX5_isFive_5 5 rfl ?_
  refine g_callAi C (rd_V C (k_X5_isName l D q tt a v n f 5 b0 b1 b2 b4 (by first | assumption | omega) (by first | assumption | omega) (by first | assumption | omega) (by first | assumption | omega) (by first | assumption | omega) (by first | assumption | omega)) gX5_isFive_X5_isName rfl rfl rfl 5 ok_X5_isName rfl 0 rfl rfl (rest := []) rfl rfl (Nat.le_of_ble_eq_true rfl) dX5_isFive_7 ⟨(Nat.le_of_ble_eq_true rfl), (Nat.le_of_ble_eq_true rfl)⟩ ⟨(Nat.le_of_ble_eq_true rfl), (Nat.le_of_ble_eq_true rfl)⟩) (fun r_7 _ h_7 => ?_)
  obtain rfl := h_7
  refine g_ifeqE C 32 dX5_isFive_10 rfl rfl (fun c_10 => ?_) (fun c_10 => ?_)
  · refine g_iconst C 0 dX5_isFive_32 (by decide) ?_
    exact g_zret C () hr rfl dX5_isFive_33 (Nat.le_of_ble_eq_true rfl) (Nat.le_of_ble_eq_true rfl) rfl ((bI_n (fun h => by first | exact c_10 h.1 | exact c_25 h.2)).symm)
  · refine g_aloadn C dX5_isFive_13 0 rfl rfl ?_
    refine g_aloadn C dX5_isFive_14 0 rfl rfl ?_
    refine g_get C fx5 w_0 0 9 (v := .int (nI f)) rfl (by decide) w_1 rfl dX5_isFive_15 ?_
    refine g_iconst C 3 dX5_isFive_18 (by decide) ?_
    refine g_iadd C dX5_isFive_19 ?_
    refine g_topci (nI (f + 3)) ((ix_add rfl rfl)) ?_
    refine g_callAi C (rd_V C (k_X5_byteAt l D q tt a ((m_s v), (m_held v), (m_aside v), (m_before v), (m_untried v), (m_isHeld v), (m_tape v), (m_taped v), (nI (kdT (m_tape v) n f)), (nI f), (nI (EN (m_tape v) n f)), (vlT (m_tape v) n f), (m_isWrong v), (m_heard v), (m_isMoved v), (m_rows v), (m_rowN v), (m_sortOf v), (m_sizeOf v), (m_numbers v), (m_holdsWhat v), (m_holdsWhich v), (m_holdsMany v), (m_bodies v), (m_ran v), (m_actKind v), (m_actN v), (m_actA v), (m_isParted v)) n (f + 3) (by first | assumption | omega) (by first | assumption | omega) (by first | assumption | omega)) gX5_isFive_X5_byteAt rfl rfl rfl 1 ok_X5_byteAt rfl 0 rfl rfl (rest := []) rfl rfl (Nat.le_of_ble_eq_true rfl) dX5_isFive_20 ⟨(Nat.le_of_ble_eq_true rfl), (Nat.le_of_ble_eq_true rfl)⟩ ⟨(Nat.le_of_ble_eq_true rfl), (Nat.le_of_ble_eq_true rfl)⟩) (fun r_20 _ h_20 => ?_)
    obtain rfl := h_20
    refine g_topci (byT (m_tape v) n (f + 3)) rfl ?_
    refine g_topci ((m_tape v) (f + 3)) (by_in (by have := c_10.2.1; omega)) ?_
    refine g_iload C dX5_isFive_23 4 rfl ?_
    refine g_icmp_ne C 32 dX5_isFive_25 rfl (fun c_25 => ?_) (fun c_25 => ?_)
    · refine g_iconst C 0 dX5_isFive_32 (by decide) ?_
      exact g_zret C () hr rfl dX5_isFive_33 (Nat.le_of_ble_eq_true rfl) (Nat.le_of_ble_eq_true rfl) rfl ((bI_n (fun h => by first | exact c_10 h.1 | exact c_25 h.2)).symm)
    · refine g_iconst C 1 dX5_isFive_28 (by decide) ?_
      refine g_goto C 33 dX5_isFive_29 rfl ?_
      exact g_zret C () hr rfl dX5_isFive_33 (Nat.le_of_ble_eq_true rfl) (Nat.le_of_ble_eq_true rfl) rfl ((bI_t ⟨c_10, c_25⟩).symm)

set_option maxRecDepth 100000 in
set_option maxHeartbeats 4000000 in
theorem k_X5_kindHere (l : Launch) (D : va_G) (q : Nat → ClassId) (tt : Nat → Nat) (a : Nat → Nat) (v : MC) (n : Nat) (f : Nat) (htn : (m_taped v) = nI n) (hn2 : n ≤ 200) (hU : TPU (m_tape v) n) (hf : f ≤ n) : MI l D q tt yX5_kindHere wsX5_kindHere ({ frames := 3, cells := 0, slots := 0, locals := 71 } : Room) [.ref (a 0)] (mw q a ((m_s v), (m_held v), (m_aside v), (m_before v), (m_untried v), (m_isHeld v), (m_tape v), (m_taped v), (nI (kdT (m_tape v) n f)), (nI f), (nI (EN (m_tape v) n f)), (vlT (m_tape v) n f), (m_isWrong v), (m_heard v), (m_isMoved v), (m_rows v), (m_rowN v), (m_sortOf v), (m_sizeOf v), (m_numbers v), (m_holdsWhat v), (m_holdsWhich v), (m_holdsMany v), (m_bodies v), (m_ran v), (m_actKind v), (m_actN v), (m_actA v), (m_isParted v))) (fun (r : Int32) (u : Unit) => r = (kiT (m_tape v) n f)) (fun (_ : Unit) => (mw q a ((m_s v), (m_held v), (m_aside v), (m_before v), (m_untried v), (m_isHeld v), (m_tape v), (m_taped v), (nI (kdT (m_tape v) n f)), (nI f), (nI (EN (m_tape v) n f)), (vlT (m_tape v) n f), (m_isWrong v), (m_heard v), (m_isMoved v), (m_rows v), (m_rowN v), (m_sortOf v), (m_sizeOf v), (m_numbers v), (m_holdsWhat v), (m_holdsWhich v), (m_holdsMany v), (m_bodies v), (m_ran v), (m_actKind v), (m_actN v), (m_actA v), (m_isParted v)))) 0 0 := by
  refine MI.of RX5 [(0, .ref (a 0))] (by decide) rfl rfl (Nat.le_of_ble_eq_true rfl) rfl ?_
  intro p e s m args below meth c A C hr hnm
  refine g_aloadn C dX5_kindHere_0 0 rfl rfl ?_
  refine g_bipush C 103 dX5_kindHere_1 (by decide) ?_
  refine g_bipush C 117 dX5_kindHere_3 (by decide) ?_
  refine g_bipush C 101 dX5_kindHere_5 (by decide) ?_
  refine g_bipush C 115 dX5_kindHere_7 (by decide) ?_
  refine g_bipush C 116 dX5_kindHere_9 (by decide) ?_
  refine g_callAi C (rd_V C (k_X5_isFive l D q tt a v n f 103 117 101 115 116 (by first | assumption | omega) (by first | assumption | omega) (by first | assumption | omega) (by first | assumption | omega)) gX5_kindHere_X5_isFive rfl rfl rfl 5 ok_X5_isFive rfl 0 rfl rfl (rest := []) rfl rfl (Nat.le_of_ble_eq_true rfl) dX5_kindHere_11 ⟨(Nat.le_of_ble_eq_true rfl), (Nat.le_of_ble_eq_true rfl)⟩ ⟨(Nat.le_of_ble_eq_true rfl), (Nat.le_of_ble_eq_true rfl)⟩) (fun r_11 _ h_11 => ?_)
  obtain rfl := h_11
  refine g_topci (bI (nmI (m_tape v) n f 0)) (bI_congr (nm5 rfl rfl rfl rfl rfl rfl)) ?_
  refine g_ifeqE C 19 dX5_kindHere_14 rfl rfl (fun c_14 => ?_) (fun c_14 => ?_)
  · refine g_aloadn C dX5_kindHere_19 0 rfl rfl ?_
    refine g_bipush C 119 dX5_kindHere_20 (by decide) ?_
    refine g_bipush C 105 dX5_kindHere_22 (by decide) ?_
    refine g_bipush C 102 dX5_kindHere_24 (by decide) ?_
    refine g_bipush C 101 dX5_kindHere_26 (by decide) ?_
    refine g_callAi C (rd_V C (k_X5_isFour l D q tt a v n f 119 105 102 101 (by first | assumption | omega) (by first | assumption | omega) (by first | assumption | omega) (by first | assumption | omega)) gX5_kindHere_X5_isFour rfl rfl rfl 4 ok_X5_isFour rfl 0 rfl rfl (rest := []) rfl rfl (Nat.le_of_ble_eq_true rfl) dX5_kindHere_28 ⟨(Nat.le_of_ble_eq_true rfl), (Nat.le_of_ble_eq_true rfl)⟩ ⟨(Nat.le_of_ble_eq_true rfl), (Nat.le_of_ble_eq_true rfl)⟩) (fun r_28 _ h_28 => ?_)
    obtain rfl := h_28
    refine g_topci (bI (nmI (m_tape v) n f 1)) (bI_congr (nm4 rfl rfl rfl rfl rfl)) ?_
    refine g_ifeqE C 36 dX5_kindHere_31 rfl rfl (fun c_31 => ?_) (fun c_31 => ?_)
    · refine g_aloadn C dX5_kindHere_36 0 rfl rfl ?_
      refine g_bipush C 104 dX5_kindHere_37 (by decide) ?_
      refine g_bipush C 97 dX5_kindHere_39 (by decide) ?_
      refine g_bipush C 110 dX5_kindHere_41 (by decide) ?_
      refine g_bipush C 100 dX5_kindHere_43 (by decide) ?_
      refine g_callAi C (rd_V C (k_X5_isFour l D q tt a v n f 104 97 110 100 (by first | assumption | omega) (by first | assumption | omega) (by first | assumption | omega) (by first | assumption | omega)) gX5_kindHere_X5_isFour rfl rfl rfl 4 ok_X5_isFour rfl 0 rfl rfl (rest := []) rfl rfl (Nat.le_of_ble_eq_true rfl) dX5_kindHere_45 ⟨(Nat.le_of_ble_eq_true rfl), (Nat.le_of_ble_eq_true rfl)⟩ ⟨(Nat.le_of_ble_eq_true rfl), (Nat.le_of_ble_eq_true rfl)⟩) (fun r_45 _ h_45 => ?_)
      obtain rfl := h_45
      refine g_topci (bI (nmI (m_tape v) n f 2)) (bI_congr (nm4 rfl rfl rfl rfl rfl)) ?_
      refine g_ifeqE C 53 dX5_kindHere_48 rfl rfl (fun c_48 => ?_) (fun c_48 => ?_)
      · refine g_aloadn C dX5_kindHere_53 0 rfl rfl ?_
        refine g_bipush C 99 dX5_kindHere_54 (by decide) ?_
        refine g_bipush C 111 dX5_kindHere_56 (by decide) ?_
        refine g_bipush C 111 dX5_kindHere_58 (by decide) ?_
        refine g_bipush C 107 dX5_kindHere_60 (by decide) ?_
        refine g_callAi C (rd_V C (k_X5_isFour l D q tt a v n f 99 111 111 107 (by first | assumption | omega) (by first | assumption | omega) (by first | assumption | omega) (by first | assumption | omega)) gX5_kindHere_X5_isFour rfl rfl rfl 4 ok_X5_isFour rfl 0 rfl rfl (rest := []) rfl rfl (Nat.le_of_ble_eq_true rfl) dX5_kindHere_62 ⟨(Nat.le_of_ble_eq_true rfl), (Nat.le_of_ble_eq_true rfl)⟩ ⟨(Nat.le_of_ble_eq_true rfl), (Nat.le_of_ble_eq_true rfl)⟩) (fun r_62 _ h_62 => ?_)
        obtain rfl := h_62
        refine g_topci (bI (nmI (m_tape v) n f 3)) (bI_congr (nm4 rfl rfl rfl rfl rfl)) ?_
        refine g_ifeqE C 70 dX5_kindHere_65 rfl rfl (fun c_65 => ?_) (fun c_65 => ?_)
        · refine g_aloadn C dX5_kindHere_70 0 rfl rfl ?_
          refine g_bipush C 99 dX5_kindHere_71 (by decide) ?_
          refine g_bipush C 104 dX5_kindHere_73 (by decide) ?_
          refine g_bipush C 105 dX5_kindHere_75 (by decide) ?_
          refine g_bipush C 101 dX5_kindHere_77 (by decide) ?_
          refine g_bipush C 102 dX5_kindHere_79 (by decide) ?_
          refine g_callAi C (rd_V C (k_X5_isFive l D q tt a v n f 99 104 105 101 102 (by first | assumption | omega) (by first | assumption | omega) (by first | assumption | omega) (by first | assumption | omega)) gX5_kindHere_X5_isFive rfl rfl rfl 5 ok_X5_isFive rfl 0 rfl rfl (rest := []) rfl rfl (Nat.le_of_ble_eq_true rfl) dX5_kindHere_81 ⟨(Nat.le_of_ble_eq_true rfl), (Nat.le_of_ble_eq_true rfl)⟩ ⟨(Nat.le_of_ble_eq_true rfl), (Nat.le_of_ble_eq_true rfl)⟩) (fun r_81 _ h_81 => ?_)
          obtain rfl := h_81
          refine g_topci (bI (nmI (m_tape v) n f 4)) (bI_congr (nm5 rfl rfl rfl rfl rfl rfl)) ?_
          refine g_ifeqE C 89 dX5_kindHere_84 rfl rfl (fun c_84 => ?_) (fun c_84 => ?_)
          · refine g_aloadn C dX5_kindHere_89 0 rfl rfl ?_
            refine g_bipush C 114 dX5_kindHere_90 (by decide) ?_
            refine g_bipush C 105 dX5_kindHere_92 (by decide) ?_
            refine g_bipush C 118 dX5_kindHere_94 (by decide) ?_
            refine g_bipush C 97 dX5_kindHere_96 (by decide) ?_
            refine g_bipush C 108 dX5_kindHere_98 (by decide) ?_
            refine g_callAi C (rd_V C (k_X5_isFive l D q tt a v n f 114 105 118 97 108 (by first | assumption | omega) (by first | assumption | omega) (by first | assumption | omega) (by first | assumption | omega)) gX5_kindHere_X5_isFive rfl rfl rfl 5 ok_X5_isFive rfl 0 rfl rfl (rest := []) rfl rfl (Nat.le_of_ble_eq_true rfl) dX5_kindHere_100 ⟨(Nat.le_of_ble_eq_true rfl), (Nat.le_of_ble_eq_true rfl)⟩ ⟨(Nat.le_of_ble_eq_true rfl), (Nat.le_of_ble_eq_true rfl)⟩) (fun r_100 _ h_100 => ?_)
            obtain rfl := h_100
            refine g_topci (bI (nmI (m_tape v) n f 5)) (bI_congr (nm5 rfl rfl rfl rfl rfl rfl)) ?_
            refine g_ifeqE C 110 dX5_kindHere_103 rfl rfl (fun c_103 => ?_) (fun c_103 => ?_)
            · refine g_iconst C (-1) dX5_kindHere_110 (by decide) ?_
              exact g_iret C () hr dX5_kindHere_111 (Nat.le_of_ble_eq_true rfl) (Nat.le_of_ble_eq_true rfl) rfl (by unfold kiT kiN; rw [if_neg c_14, if_neg c_31, if_neg c_48, if_neg c_65, if_neg c_84, if_neg c_103]; rfl)
            · refine g_iconst C 5 dX5_kindHere_106 (by decide) ?_
              refine g_goto C 111 dX5_kindHere_107 rfl ?_
              exact g_iret C () hr dX5_kindHere_111 (Nat.le_of_ble_eq_true rfl) (Nat.le_of_ble_eq_true rfl) rfl (by unfold kiT kiN; rw [if_neg c_14, if_neg c_31, if_neg c_48, if_neg c_65, if_neg c_84, if_pos c_103]; rfl)
          · refine g_iconst C 4 dX5_kindHere_87 (by decide) ?_
            exact g_iret C () hr dX5_kindHere_88 (Nat.le_of_ble_eq_true rfl) (Nat.le_of_ble_eq_true rfl) rfl (by unfold kiT kiN; rw [if_neg c_14, if_neg c_31, if_neg c_48, if_neg c_65, if_pos c_84]; rfl)
        · refine g_iconst C 3 dX5_kindHere_68 (by decide) ?_
          exact g_iret C () hr dX5_kindHere_69 (Nat.le_of_ble_eq_true rfl) (Nat.le_of_ble_eq_true rfl) rfl (by unfold kiT kiN; rw [if_neg c_14, if_neg c_31, if_neg c_48, if_pos c_65]; rfl)
      · refine g_iconst C 2 dX5_kindHere_51 (by decide) ?_
        exact g_iret C () hr dX5_kindHere_52 (Nat.le_of_ble_eq_true rfl) (Nat.le_of_ble_eq_true rfl) rfl (by unfold kiT kiN; rw [if_neg c_14, if_neg c_31, if_pos c_48]; rfl)
    · refine g_iconst C 1 dX5_kindHere_34 (by decide) ?_
      exact g_iret C () hr dX5_kindHere_35 (Nat.le_of_ble_eq_true rfl) (Nat.le_of_ble_eq_true rfl) rfl (by unfold kiT kiN; rw [if_neg c_14, if_pos c_31]; rfl)
  · refine g_iconst C 0 dX5_kindHere_17 (by decide) ?_
    exact g_iret C () hr dX5_kindHere_18 (Nat.le_of_ble_eq_true rfl) (Nat.le_of_ble_eq_true rfl) rfl (by unfold kiT kiN; rw [if_pos c_14]; rfl)

set_option maxRecDepth 100000 in
set_option maxHeartbeats 4000000 in
theorem k_X5_lawHere (l : Launch) (D : va_G) (q : Nat → ClassId) (tt : Nat → Nat) (a : Nat → Nat) (v : MC) (n : Nat) (f : Nat) (htn : (m_taped v) = nI n) (hn2 : n ≤ 200) (hU : TPU (m_tape v) n) (hf : f ≤ n) : MI l D q tt yX5_lawHere wsX5_lawHere ({ frames := 3, cells := 0, slots := 0, locals := 71 } : Room) [.ref (a 0)] (mw q a ((m_s v), (m_held v), (m_aside v), (m_before v), (m_untried v), (m_isHeld v), (m_tape v), (m_taped v), (nI (kdT (m_tape v) n f)), (nI f), (nI (EN (m_tape v) n f)), (vlT (m_tape v) n f), (m_isWrong v), (m_heard v), (m_isMoved v), (m_rows v), (m_rowN v), (m_sortOf v), (m_sizeOf v), (m_numbers v), (m_holdsWhat v), (m_holdsWhich v), (m_holdsMany v), (m_bodies v), (m_ran v), (m_actKind v), (m_actN v), (m_actA v), (m_isParted v))) (fun (r : Int32) (u : Unit) => r = (lwT (m_tape v) n f)) (fun (_ : Unit) => (mw q a ((m_s v), (m_held v), (m_aside v), (m_before v), (m_untried v), (m_isHeld v), (m_tape v), (m_taped v), (nI (kdT (m_tape v) n f)), (nI f), (nI (EN (m_tape v) n f)), (vlT (m_tape v) n f), (m_isWrong v), (m_heard v), (m_isMoved v), (m_rows v), (m_rowN v), (m_sortOf v), (m_sizeOf v), (m_numbers v), (m_holdsWhat v), (m_holdsWhich v), (m_holdsMany v), (m_bodies v), (m_ran v), (m_actKind v), (m_actN v), (m_actA v), (m_isParted v)))) 0 0 := by
  refine MI.of RX5 [(0, .ref (a 0))] (by decide) rfl rfl (Nat.le_of_ble_eq_true rfl) rfl ?_
  intro p e s m args below meth c A C hr hnm
  refine g_aloadn C dX5_lawHere_0 0 rfl rfl ?_
  refine g_iconst C 3 dX5_lawHere_1 (by decide) ?_
  refine g_bipush C 112 dX5_lawHere_2 (by decide) ?_
  refine g_bipush C 97 dX5_lawHere_4 (by decide) ?_
  refine g_bipush C 121 dX5_lawHere_6 (by decide) ?_
  refine g_bipush C 121 dX5_lawHere_8 (by decide) ?_
  refine g_callAi C (rd_V C (k_X5_isName l D q tt a v n f 3 112 97 121 121 (by first | assumption | omega) (by first | assumption | omega) (by first | assumption | omega) (by first | assumption | omega) (by first | assumption | omega) (by first | assumption | omega)) gX5_lawHere_X5_isName rfl rfl rfl 5 ok_X5_isName rfl 0 rfl rfl (rest := []) rfl rfl (Nat.le_of_ble_eq_true rfl) dX5_lawHere_10 ⟨(Nat.le_of_ble_eq_true rfl), (Nat.le_of_ble_eq_true rfl)⟩ ⟨(Nat.le_of_ble_eq_true rfl), (Nat.le_of_ble_eq_true rfl)⟩) (fun r_10 _ h_10 => ?_)
  obtain rfl := h_10
  refine g_topci (bI (nmI (m_tape v) n f 6)) (bI_congr (nm3 rfl rfl rfl rfl)) ?_
  refine g_ifeqE C 18 dX5_lawHere_13 rfl rfl (fun c_13 => ?_) (fun c_13 => ?_)
  · refine g_aloadn C dX5_lawHere_18 0 rfl rfl ?_
    refine g_iconst C 3 dX5_lawHere_19 (by decide) ?_
    refine g_bipush C 99 dX5_lawHere_20 (by decide) ?_
    refine g_bipush C 117 dX5_lawHere_22 (by decide) ?_
    refine g_bipush C 101 dX5_lawHere_24 (by decide) ?_
    refine g_bipush C 101 dX5_lawHere_26 (by decide) ?_
    refine g_callAi C (rd_V C (k_X5_isName l D q tt a v n f 3 99 117 101 101 (by first | assumption | omega) (by first | assumption | omega) (by first | assumption | omega) (by first | assumption | omega) (by first | assumption | omega) (by first | assumption | omega)) gX5_lawHere_X5_isName rfl rfl rfl 5 ok_X5_isName rfl 0 rfl rfl (rest := []) rfl rfl (Nat.le_of_ble_eq_true rfl) dX5_lawHere_28 ⟨(Nat.le_of_ble_eq_true rfl), (Nat.le_of_ble_eq_true rfl)⟩ ⟨(Nat.le_of_ble_eq_true rfl), (Nat.le_of_ble_eq_true rfl)⟩) (fun r_28 _ h_28 => ?_)
    obtain rfl := h_28
    refine g_topci (bI (nmI (m_tape v) n f 7)) (bI_congr (nm3 rfl rfl rfl rfl)) ?_
    refine g_ifeqE C 36 dX5_lawHere_31 rfl rfl (fun c_31 => ?_) (fun c_31 => ?_)
    · refine g_aloadn C dX5_lawHere_36 0 rfl rfl ?_
      refine g_bipush C 119 dX5_lawHere_37 (by decide) ?_
      refine g_bipush C 97 dX5_lawHere_39 (by decide) ?_
      refine g_bipush C 108 dX5_lawHere_41 (by decide) ?_
      refine g_bipush C 108 dX5_lawHere_43 (by decide) ?_
      refine g_callAi C (rd_V C (k_X5_isFour l D q tt a v n f 119 97 108 108 (by first | assumption | omega) (by first | assumption | omega) (by first | assumption | omega) (by first | assumption | omega)) gX5_lawHere_X5_isFour rfl rfl rfl 4 ok_X5_isFour rfl 0 rfl rfl (rest := []) rfl rfl (Nat.le_of_ble_eq_true rfl) dX5_lawHere_45 ⟨(Nat.le_of_ble_eq_true rfl), (Nat.le_of_ble_eq_true rfl)⟩ ⟨(Nat.le_of_ble_eq_true rfl), (Nat.le_of_ble_eq_true rfl)⟩) (fun r_45 _ h_45 => ?_)
      obtain rfl := h_45
      refine g_topci (bI (nmI (m_tape v) n f 8)) (bI_congr (nm4 rfl rfl rfl rfl rfl)) ?_
      refine g_ifeqE C 53 dX5_lawHere_48 rfl rfl (fun c_48 => ?_) (fun c_48 => ?_)
      · refine g_aloadn C dX5_lawHere_53 0 rfl rfl ?_
        refine g_bipush C 119 dX5_lawHere_54 (by decide) ?_
        refine g_bipush C 114 dX5_lawHere_56 (by decide) ?_
        refine g_bipush C 111 dX5_lawHere_58 (by decide) ?_
        refine g_bipush C 110 dX5_lawHere_60 (by decide) ?_
        refine g_bipush C 103 dX5_lawHere_62 (by decide) ?_
        refine g_callAi C (rd_V C (k_X5_isFive l D q tt a v n f 119 114 111 110 103 (by first | assumption | omega) (by first | assumption | omega) (by first | assumption | omega) (by first | assumption | omega)) gX5_lawHere_X5_isFive rfl rfl rfl 5 ok_X5_isFive rfl 0 rfl rfl (rest := []) rfl rfl (Nat.le_of_ble_eq_true rfl) dX5_lawHere_64 ⟨(Nat.le_of_ble_eq_true rfl), (Nat.le_of_ble_eq_true rfl)⟩ ⟨(Nat.le_of_ble_eq_true rfl), (Nat.le_of_ble_eq_true rfl)⟩) (fun r_64 _ h_64 => ?_)
        obtain rfl := h_64
        refine g_topci (bI (nmI (m_tape v) n f 9)) (bI_congr (nm5 rfl rfl rfl rfl rfl rfl)) ?_
        refine g_ifeqE C 75 dX5_lawHere_67 rfl rfl (fun c_67 => ?_) (fun c_67 => ?_)
        · refine g_iconst C (-1) dX5_lawHere_75 (by decide) ?_
          exact g_iret C () hr dX5_lawHere_76 (Nat.le_of_ble_eq_true rfl) (Nat.le_of_ble_eq_true rfl) rfl (by unfold lwT lwN; rw [if_neg c_13, if_neg c_31, if_neg c_48, if_neg c_67]; rfl)
        · refine g_bipush C 6 dX5_lawHere_70 (by decide) ?_
          refine g_goto C 76 dX5_lawHere_72 rfl ?_
          exact g_iret C () hr dX5_lawHere_76 (Nat.le_of_ble_eq_true rfl) (Nat.le_of_ble_eq_true rfl) rfl (by unfold lwT lwN; rw [if_neg c_13, if_neg c_31, if_neg c_48, if_pos c_67]; rfl)
      · refine g_iconst C 5 dX5_lawHere_51 (by decide) ?_
        exact g_iret C () hr dX5_lawHere_52 (Nat.le_of_ble_eq_true rfl) (Nat.le_of_ble_eq_true rfl) rfl (by unfold lwT lwN; rw [if_neg c_13, if_neg c_31, if_pos c_48]; rfl)
    · refine g_iconst C 4 dX5_lawHere_34 (by decide) ?_
      exact g_iret C () hr dX5_lawHere_35 (Nat.le_of_ble_eq_true rfl) (Nat.le_of_ble_eq_true rfl) rfl (by unfold lwT lwN; rw [if_neg c_13, if_pos c_31]; rfl)
  · refine g_iconst C 3 dX5_lawHere_16 (by decide) ?_
    exact g_iret C () hr dX5_lawHere_17 (Nat.le_of_ble_eq_true rfl) (Nat.le_of_ble_eq_true rfl) rfl (by unfold lwT lwN; rw [if_pos c_13]; rfl)

