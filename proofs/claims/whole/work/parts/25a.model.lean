set_option maxRecDepth 100000 in
set_option maxHeartbeats 4000000 in
theorem k_X5_keep (l : Launch) (D : va_G) (q : Nat → ClassId) (tt : Nat → Nat) (a : Nat → Nat) (v : MC)  : MI l D q tt yX5_keep wsX5_keep ({ frames := 0, cells := 0, slots := 0, locals := 0 } : Room) [.ref (a 0)] (mw q a v) (fun (r : Int32) (u : Unit) => r = 1) (fun (_ : Unit) => (mw q a ((m_s v), (cp47 (m_s v) (m_held v)), (m_aside v), (m_before v), (m_untried v), 1, (m_tape v), (m_taped v), (m_token v), (m_from v), (m_to v), (m_value v), (m_isWrong v), (m_heard v), (m_isMoved v), (m_rows v), (m_rowN v), (m_sortOf v), (m_sizeOf v), (m_numbers v), (m_holdsWhat v), (m_holdsWhich v), (m_holdsMany v), (m_bodies v), (m_ran v), (m_actKind v), (m_actN v), (m_actA v), (m_isParted v)))) 0 0 := by
  refine MI.of RX5 [(0, .ref (a 0))] (by decide) rfl rfl (Nat.le_of_ble_eq_true rfl) rfl ?_
  intro p e s m args below meth c A C hr hnm
  have w_0 : ∀ w ∈ u_ws RX5 TX5 29, w ∈ wsX5_keep := by decide +kernel
  have w_1 : Cond.fieldLink RX5 334 (TX5 5).1 (TX5 5).2.1 (TX5 5).2.2.1 ∈ wsX5_keep := by decide +kernel
  have w_2 : Cond.fieldLink RX5 13 (TX5 1).1 (TX5 1).2.1 (TX5 1).2.2.1 ∈ wsX5_keep := by decide +kernel
  have w_3 : Cond.fieldLink RX5 7 (TX5 0).1 (TX5 0).2.1 (TX5 0).2.2.1 ∈ wsX5_keep := by decide +kernel
  refine g_iconst C 0 dX5_keep_0 (by decide) ?_
  refine g_istoren C [(1, .int 0), (0, .ref (a 0))] dX5_keep_1 rfl (by decide) rfl ?_
  have J_2 : ∀ (fu : Nat) (i : Nat), 47 - i < fu → (i ≤ 47) → G p l e ({ frames := 0, cells := 0, slots := 0, locals := 0 } : Room) s m args below meth c 2 D A (MQ below (va_Qi (fun (r : Int32) (u : Unit) => r = 1) (Bw D A (fun (_ : Unit) => (mw q a ((m_s v), (cp47 (m_s v) (m_held v)), (m_aside v), (m_before v), (m_untried v), 1, (m_tape v), (m_taped v), (m_token v), (m_from v), (m_to v), (m_value v), (m_isWrong v), (m_heard v), (m_isMoved v), (m_rows v), (m_rowN v), (m_sortOf v), (m_sizeOf v), (m_numbers v), (m_holdsWhat v), (m_holdsWhich v), (m_holdsMany v), (m_bodies v), (m_ran v), (m_actKind v), (m_actN v), (m_actA v), (m_isParted v))))) A) args s 0 0 A) 2 [(0, .ref (a 0)), (1, .int (nI i))] [] (mw q a ((m_s v), (cpN (m_s v) (m_held v) i), (m_aside v), (m_before v), (m_untried v), (m_isHeld v), (m_tape v), (m_taped v), (m_token v), (m_from v), (m_to v), (m_value v), (m_isWrong v), (m_heard v), (m_isMoved v), (m_rows v), (m_rowN v), (m_sortOf v), (m_sizeOf v), (m_numbers v), (m_holdsWhat v), (m_holdsWhich v), (m_holdsMany v), (m_bodies v), (m_ran v), (m_actKind v), (m_actN v), (m_actA v), (m_isParted v))) 0 0 := by
    intro fu
    induction fu with
    | zero =>
      intro i hfu
      exact absurd hfu (Nat.not_lt_zero _)
    | succ fu ih =>
      intro i hfu hi
      refine g_iloadn C dX5_keep_2 1 rfl rfl ?_
      refine g_bipush C 47 dX5_keep_3 (by decide) ?_
      refine g_icmpN_ge C 26 (i) (47) dX5_keep_5 rfl (by omega) (by omega) (fun c_5 => ?_) (fun c_5 => ?_)
      · refine g_wsc (mw q a ((m_s v), (cp47 (m_s v) (m_held v)), (m_aside v), (m_before v), (m_untried v), (m_isHeld v), (m_tape v), (m_taped v), (m_token v), (m_from v), (m_to v), (m_value v), (m_isWrong v), (m_heard v), (m_isMoved v), (m_rows v), (m_rowN v), (m_sortOf v), (m_sizeOf v), (m_numbers v), (m_holdsWhat v), (m_holdsWhich v), (m_holdsMany v), (m_bodies v), (m_ran v), (m_actKind v), (m_actN v), (m_actA v), (m_isParted v))) (by have e_ : i = 47 := (by omega); rw [e_]; rfl) ?_
        refine g_aloadn C dX5_keep_26 0 rfl rfl ?_
        refine g_iconst C 1 dX5_keep_27 (by decide) ?_
        refine g_put C fx5 w_0 0 5 rfl (by decide) w_1 rfl rfl rfl (Nat.le_of_ble_eq_true rfl) dX5_keep_28 (mw q a ((m_s v), (cp47 (m_s v) (m_held v)), (m_aside v), (m_before v), (m_untried v), 1, (m_tape v), (m_taped v), (m_token v), (m_from v), (m_to v), (m_value v), (m_isWrong v), (m_heard v), (m_isMoved v), (m_rows v), (m_rowN v), (m_sortOf v), (m_sizeOf v), (m_numbers v), (m_holdsWhat v), (m_holdsWhich v), (m_holdsMany v), (m_bodies v), (m_ran v), (m_actKind v), (m_actN v), (m_actA v), (m_isParted v))) rfl ?_
        refine g_iconst C 1 dX5_keep_31 (by decide) ?_
        exact g_iret C () hr dX5_keep_32 (Nat.le_of_ble_eq_true rfl) (Nat.le_of_ble_eq_true rfl) rfl (rfl)
      · refine g_aloadn C dX5_keep_8 0 rfl rfl ?_
        refine g_get C fx5 w_0 0 1 (v := .ref (a 2)) rfl (by decide) w_2 rfl dX5_keep_9 ?_
        refine g_iloadn C dX5_keep_12 1 rfl rfl ?_
        refine g_aloadn C dX5_keep_13 0 rfl rfl ?_
        refine g_get C fx5 w_0 0 0 (v := .ref (a 1)) rfl (by decide) w_3 rfl dX5_keep_14 ?_
        refine g_iloadn C dX5_keep_17 1 rfl rfl ?_
        refine g_iald C 1 (i) (f := (m_s v)) rfl rfl (by omega) (by decide) dX5_keep_18 ?_
        refine g_iast C 2 (i) (f := (cpN (m_s v) (m_held v) i)) rfl rfl (by omega) (by decide) dX5_keep_19 (mw q a ((m_s v), (upd (cpN (m_s v) (m_held v) i) i ((m_s v) i)), (m_aside v), (m_before v), (m_untried v), (m_isHeld v), (m_tape v), (m_taped v), (m_token v), (m_from v), (m_to v), (m_value v), (m_isWrong v), (m_heard v), (m_isMoved v), (m_rows v), (m_rowN v), (m_sortOf v), (m_sizeOf v), (m_numbers v), (m_holdsWhat v), (m_holdsWhich v), (m_holdsMany v), (m_bodies v), (m_ran v), (m_actKind v), (m_actN v), (m_actA v), (m_isParted v))) rfl ?_
        refine g_wsc (mw q a ((m_s v), (cpN (m_s v) (m_held v) (i + 1)), (m_aside v), (m_before v), (m_untried v), (m_isHeld v), (m_tape v), (m_taped v), (m_token v), (m_from v), (m_to v), (m_value v), (m_isWrong v), (m_heard v), (m_isMoved v), (m_rows v), (m_rowN v), (m_sortOf v), (m_sizeOf v), (m_numbers v), (m_holdsWhat v), (m_holdsWhich v), (m_holdsMany v), (m_bodies v), (m_ran v), (m_actKind v), (m_actN v), (m_actA v), (m_isParted v))) (by rw [cpN_s]) ?_
        refine g_iinc C (nI (i + 1)) [(1, .int (nI (i + 1))), (0, .ref (a 0))] dX5_keep_20 1 rfl (nI_add i 1) (by decide) rfl ?_
        refine g_goto C 2 dX5_keep_23 rfl ?_
        refine g_sub [1, 0] (lv' := [(0, .ref (a 0)), (1, .int (nI (i + 1)))]) rfl ?_
        exact ih ((i + 1)) (by omega) (by first | assumption | omega)
  refine g_wsc (mw q a ((m_s v), (cpN (m_s v) (m_held v) 0), (m_aside v), (m_before v), (m_untried v), (m_isHeld v), (m_tape v), (m_taped v), (m_token v), (m_from v), (m_to v), (m_value v), (m_isWrong v), (m_heard v), (m_isMoved v), (m_rows v), (m_rowN v), (m_sortOf v), (m_sizeOf v), (m_numbers v), (m_holdsWhat v), (m_holdsWhich v), (m_holdsMany v), (m_bodies v), (m_ran v), (m_actKind v), (m_actN v), (m_actA v), (m_isParted v))) (by rw [cpN_0]) ?_
  refine g_sub [1, 0] (lv' := [(0, .ref (a 0)), (1, .int 0)]) rfl ?_
  exact J_2 _ (0) (Nat.lt_succ_self _) (by first | assumption | omega)

set_option maxRecDepth 100000 in
set_option maxHeartbeats 4000000 in
theorem k_X5_again (l : Launch) (D : va_G) (q : Nat → ClassId) (tt : Nat → Nat) (a : Nat → Nat) (v : MC)  : MI l D q tt yX5_again wsX5_again ({ frames := 0, cells := 0, slots := 0, locals := 0 } : Room) [.ref (a 0)] (mw q a v) (fun (r : Int32) (u : Nat → Int32) => (m_isHeld v = 0 ∧ r = -3 ∧ u = m_s v) ∨ (¬ m_isHeld v = 0 ∧ r = m_held v 0 ∧ u = cp47 (m_held v) (m_s v))) (fun u => (mw q a (u, (m_held v), (m_aside v), (m_before v), (m_untried v), (m_isHeld v), (m_tape v), (m_taped v), (m_token v), (m_from v), (m_to v), (m_value v), (m_isWrong v), (m_heard v), (m_isMoved v), (m_rows v), (m_rowN v), (m_sortOf v), (m_sizeOf v), (m_numbers v), (m_holdsWhat v), (m_holdsWhich v), (m_holdsMany v), (m_bodies v), (m_ran v), (m_actKind v), (m_actN v), (m_actA v), (m_isParted v)))) 0 0 := by
  refine MI.of RX5 [(0, .ref (a 0))] (by decide) rfl rfl (Nat.le_of_ble_eq_true rfl) rfl ?_
  intro p e s m args below meth c A C hr hnm
  have w_0 : ∀ w ∈ u_ws RX5 TX5 29, w ∈ wsX5_again := by decide +kernel
  have w_1 : Cond.fieldLink RX5 334 (TX5 5).1 (TX5 5).2.1 (TX5 5).2.2.1 ∈ wsX5_again := by decide +kernel
  have w_2 : Cond.fieldLink RX5 7 (TX5 0).1 (TX5 0).2.1 (TX5 0).2.2.1 ∈ wsX5_again := by decide +kernel
  have w_3 : Cond.fieldLink RX5 13 (TX5 1).1 (TX5 1).2.1 (TX5 1).2.2.1 ∈ wsX5_again := by decide +kernel
  refine g_aloadn C dX5_again_0 0 rfl rfl ?_
  refine g_get C fx5 w_0 0 5 (v := .int (m_isHeld v)) rfl (by decide) w_1 rfl dX5_again_1 ?_
  refine g_if_ne C 10 dX5_again_4 rfl (fun c_4 => ?_) (fun c_4 => ?_)
  · refine g_iconst C 0 dX5_again_10 (by decide) ?_
    refine g_istoren C [(1, .int 0), (0, .ref (a 0))] dX5_again_11 rfl (by decide) rfl ?_
    have J_12 : ∀ (fu : Nat) (i : Nat), 47 - i < fu → (i ≤ 47) → G p l e ({ frames := 0, cells := 0, slots := 0, locals := 0 } : Room) s m args below meth c 2 D A (MQ below (va_Qi (fun (r : Int32) (u : Nat → Int32) => (m_isHeld v = 0 ∧ r = -3 ∧ u = m_s v) ∨ (¬ m_isHeld v = 0 ∧ r = m_held v 0 ∧ u = cp47 (m_held v) (m_s v))) (Bw D A (fun u => (mw q a (u, (m_held v), (m_aside v), (m_before v), (m_untried v), (m_isHeld v), (m_tape v), (m_taped v), (m_token v), (m_from v), (m_to v), (m_value v), (m_isWrong v), (m_heard v), (m_isMoved v), (m_rows v), (m_rowN v), (m_sortOf v), (m_sizeOf v), (m_numbers v), (m_holdsWhat v), (m_holdsWhich v), (m_holdsMany v), (m_bodies v), (m_ran v), (m_actKind v), (m_actN v), (m_actA v), (m_isParted v))))) A) args s 0 0 A) 12 [(0, .ref (a 0)), (1, .int (nI i))] [] (mw q a ((cpN (m_held v) (m_s v) i), (m_held v), (m_aside v), (m_before v), (m_untried v), (m_isHeld v), (m_tape v), (m_taped v), (m_token v), (m_from v), (m_to v), (m_value v), (m_isWrong v), (m_heard v), (m_isMoved v), (m_rows v), (m_rowN v), (m_sortOf v), (m_sizeOf v), (m_numbers v), (m_holdsWhat v), (m_holdsWhich v), (m_holdsMany v), (m_bodies v), (m_ran v), (m_actKind v), (m_actN v), (m_actA v), (m_isParted v))) 0 0 := by
      intro fu
      induction fu with
      | zero =>
        intro i hfu
        exact absurd hfu (Nat.not_lt_zero _)
      | succ fu ih =>
        intro i hfu hi
        refine g_iloadn C dX5_again_12 1 rfl rfl ?_
        refine g_bipush C 47 dX5_again_13 (by decide) ?_
        refine g_icmpN_ge C 36 (i) (47) dX5_again_15 rfl (by omega) (by omega) (fun c_15 => ?_) (fun c_15 => ?_)
        · refine g_wsc (mw q a ((cp47 (m_held v) (m_s v)), (m_held v), (m_aside v), (m_before v), (m_untried v), (m_isHeld v), (m_tape v), (m_taped v), (m_token v), (m_from v), (m_to v), (m_value v), (m_isWrong v), (m_heard v), (m_isMoved v), (m_rows v), (m_rowN v), (m_sortOf v), (m_sizeOf v), (m_numbers v), (m_holdsWhat v), (m_holdsWhich v), (m_holdsMany v), (m_bodies v), (m_ran v), (m_actKind v), (m_actN v), (m_actA v), (m_isParted v))) (by have e_ : i = 47 := (by omega); rw [e_]; rfl) ?_
          refine g_aloadn C dX5_again_36 0 rfl rfl ?_
          refine g_get C fx5 w_0 0 0 (v := .ref (a 1)) rfl (by decide) w_2 rfl dX5_again_37 ?_
          refine g_iconst C 0 dX5_again_40 (by decide) ?_
          refine g_iald C 1 (0) (f := (cp47 (m_held v) (m_s v))) rfl rfl (by omega) (by decide) dX5_again_41 ?_
          exact g_iret C (cp47 (m_held v) (m_s v)) hr dX5_again_42 (Nat.le_of_ble_eq_true rfl) (Nat.le_of_ble_eq_true rfl) rfl (Or.inr ⟨c_4, cp_in (by omega), rfl⟩)
        · refine g_aloadn C dX5_again_18 0 rfl rfl ?_
          refine g_get C fx5 w_0 0 0 (v := .ref (a 1)) rfl (by decide) w_2 rfl dX5_again_19 ?_
          refine g_iloadn C dX5_again_22 1 rfl rfl ?_
          refine g_aloadn C dX5_again_23 0 rfl rfl ?_
          refine g_get C fx5 w_0 0 1 (v := .ref (a 2)) rfl (by decide) w_3 rfl dX5_again_24 ?_
          refine g_iloadn C dX5_again_27 1 rfl rfl ?_
          refine g_iald C 2 (i) (f := (m_held v)) rfl rfl (by omega) (by decide) dX5_again_28 ?_
          refine g_iast C 1 (i) (f := (cpN (m_held v) (m_s v) i)) rfl rfl (by omega) (by decide) dX5_again_29 (mw q a ((upd (cpN (m_held v) (m_s v) i) i ((m_held v) i)), (m_held v), (m_aside v), (m_before v), (m_untried v), (m_isHeld v), (m_tape v), (m_taped v), (m_token v), (m_from v), (m_to v), (m_value v), (m_isWrong v), (m_heard v), (m_isMoved v), (m_rows v), (m_rowN v), (m_sortOf v), (m_sizeOf v), (m_numbers v), (m_holdsWhat v), (m_holdsWhich v), (m_holdsMany v), (m_bodies v), (m_ran v), (m_actKind v), (m_actN v), (m_actA v), (m_isParted v))) rfl ?_
          refine g_wsc (mw q a ((cpN (m_held v) (m_s v) (i + 1)), (m_held v), (m_aside v), (m_before v), (m_untried v), (m_isHeld v), (m_tape v), (m_taped v), (m_token v), (m_from v), (m_to v), (m_value v), (m_isWrong v), (m_heard v), (m_isMoved v), (m_rows v), (m_rowN v), (m_sortOf v), (m_sizeOf v), (m_numbers v), (m_holdsWhat v), (m_holdsWhich v), (m_holdsMany v), (m_bodies v), (m_ran v), (m_actKind v), (m_actN v), (m_actA v), (m_isParted v))) (by rw [cpN_s]) ?_
          refine g_iinc C (nI (i + 1)) [(1, .int (nI (i + 1))), (0, .ref (a 0))] dX5_again_30 1 rfl (nI_add i 1) (by decide) rfl ?_
          refine g_goto C 12 dX5_again_33 rfl ?_
          refine g_sub [1, 0] (lv' := [(0, .ref (a 0)), (1, .int (nI (i + 1)))]) rfl ?_
          exact ih ((i + 1)) (by omega) (by first | assumption | omega)
    refine g_wsc (mw q a ((cpN (m_held v) (m_s v) 0), (m_held v), (m_aside v), (m_before v), (m_untried v), (m_isHeld v), (m_tape v), (m_taped v), (m_token v), (m_from v), (m_to v), (m_value v), (m_isWrong v), (m_heard v), (m_isMoved v), (m_rows v), (m_rowN v), (m_sortOf v), (m_sizeOf v), (m_numbers v), (m_holdsWhat v), (m_holdsWhich v), (m_holdsMany v), (m_bodies v), (m_ran v), (m_actKind v), (m_actN v), (m_actA v), (m_isParted v))) (by rw [cpN_0]) ?_
    refine g_sub [1, 0] (lv' := [(0, .ref (a 0)), (1, .int 0)]) rfl ?_
    exact J_12 _ (0) (Nat.lt_succ_self _) (by first | assumption | omega)
  · refine g_bipush C (-3) dX5_again_7 (by decide) ?_
    exact g_iret C (m_s v) hr dX5_again_9 (Nat.le_of_ble_eq_true rfl) (Nat.le_of_ble_eq_true rfl) rfl (Or.inl ⟨by first | exact c_4 | exact Decidable.not_not.mp c_4, rfl, rfl⟩)

set_option maxRecDepth 100000 in
set_option maxHeartbeats 4000000 in
theorem k_X5_many (l : Launch) (D : va_G) (q : Nat → ClassId) (tt : Nat → Nat) (a : Nat → Nat) (v : MC) (N : Nat) (x : Int32) (hG : Gd (m_s v) N) : MI l D q tt yX5_many wsX5_many ({ frames := 2, cells := 0, slots := 0, locals := 44 } : Room) [.ref (a 0), .int x] (mw q a v) (fun (r : Int32) (u : Unit) => r = R_many (m_s v) N (m_rowN v) (m_taped v) (m_ran v) x) (fun (_ : Unit) => (mw q a v)) 0 0 := by
  refine MI.of RX5 [(0, .ref (a 0)), (1, .int x)] (by decide) rfl rfl (Nat.le_of_ble_eq_true rfl) rfl ?_
  intro p e s m args below meth c A C hr hnm
  have w_0 : ∀ w ∈ u_ws RX5 TX5 29, w ∈ wsX5_many := by decide +kernel
  have w_1 : Cond.fieldLink RX5 7 (TX5 0).1 (TX5 0).2.1 (TX5 0).2.2.1 ∈ wsX5_many := by decide +kernel
  have w_2 : Cond.fieldLink RX5 149 (TX5 16).1 (TX5 16).2.1 (TX5 16).2.2.1 ∈ wsX5_many := by decide +kernel
  have w_3 : Cond.fieldLink RX5 68 (TX5 7).1 (TX5 7).2.1 (TX5 7).2.2.1 ∈ wsX5_many := by decide +kernel
  have w_4 : Cond.fieldLink RX5 289 (TX5 24).1 (TX5 24).2.1 (TX5 24).2.2.1 ∈ wsX5_many := by decide +kernel
  have h8 := hG.le
  obtain ⟨k, hk, ek⟩ := rt_ix hG N (Nat.le_refl N)
  refine g_iconst C 0 dX5_many_0 (by decide) ?_
  refine g_istoren C [(2, .int 0), (0, .ref (a 0)), (1, .int x)] dX5_many_1 rfl (by decide) rfl ?_
  refine g_iloadn C dX5_many_2 2 rfl rfl ?_
  by_cases s_3_0 : x = 0
  · refine g_tin C 44 dX5_many_3 (by rw [s_3_0]; decide) (by rw [s_3_0]; decide) (by rw [s_3_0]; rfl) rfl ?_
    refine g_aloadn C dX5_many_44 1 rfl rfl ?_
    refine g_get C fx5 w_0 0 0 (v := .ref (a 1)) rfl (by decide) w_1 rfl dX5_many_45 ?_
    refine g_iconst C 0 dX5_many_48 (by decide) ?_
    refine g_iald C 1 (0) (f := (m_s v)) rfl rfl (by omega) (by decide) dX5_many_49 ?_
    refine g_topci (nI N) (hG.n) ?_
    exact g_iret C () hr dX5_many_50 (Nat.le_of_ble_eq_true rfl) (Nat.le_of_ble_eq_true rfl) rfl (by unfold R_many; rw [if_pos s_3_0]; exact hG.n.symm)
  by_cases s_3_1 : x = 1
  · refine g_tin C 51 dX5_many_3 (by rw [s_3_1]; decide) (by rw [s_3_1]; decide) (by rw [s_3_1]; rfl) rfl ?_
    refine g_aloadn C dX5_many_51 1 rfl rfl ?_
    refine g_callAi C (rd_V C (k_X5_clappers l D q tt a v N (by first | assumption | omega)) gX5_many_X5_clappers rfl rfl rfl 0 ok_X5_clappers rfl 0 rfl rfl (rest := []) rfl rfl (Nat.le_of_ble_eq_true rfl) dX5_many_52 ⟨(Nat.le_of_ble_eq_true rfl), (Nat.le_of_ble_eq_true rfl)⟩ ⟨(Nat.le_of_ble_eq_true rfl), (Nat.le_of_ble_eq_true rfl)⟩) (fun r_52 _ h_52 => ?_)
    obtain rfl := h_52
    refine g_call0i C (rd_S C (k_X5_size l D q tt (clN (m_s v) N) (clN_256 h8)) gX5_many_X5_size rfl rfl rfl 1 ok_X5_size (rest := []) rfl rfl (Nat.le_of_ble_eq_true rfl) dX5_many_55 ⟨(Nat.le_of_ble_eq_true rfl), (Nat.le_of_ble_eq_true rfl)⟩ ⟨(Nat.le_of_ble_eq_true rfl), (Nat.le_of_ble_eq_true rfl)⟩) (fun _ => rfl) (fun r_55 _ h_55 => ?_)
    obtain rfl := h_55
    exact g_iret C () hr dX5_many_58 (Nat.le_of_ble_eq_true rfl) (Nat.le_of_ble_eq_true rfl) rfl (by unfold R_many; rw [if_neg s_3_0, if_pos s_3_1])
  by_cases s_3_2 : x = 2
  · refine g_tin C 59 dX5_many_3 (by rw [s_3_2]; decide) (by rw [s_3_2]; decide) (by rw [s_3_2]; rfl) rfl ?_
    refine g_aloadn C dX5_many_59 1 rfl rfl ?_
    refine g_callAi C (rd_V C (k_X5_roomsInUse l D q tt a v N (by first | assumption | omega)) gX5_many_X5_roomsInUse rfl rfl rfl 0 ok_X5_roomsInUse rfl 0 rfl rfl (rest := []) rfl rfl (Nat.le_of_ble_eq_true rfl) dX5_many_60 ⟨(Nat.le_of_ble_eq_true rfl), (Nat.le_of_ble_eq_true rfl)⟩ ⟨(Nat.le_of_ble_eq_true rfl), (Nat.le_of_ble_eq_true rfl)⟩) (fun r_60 _ h_60 => ?_)
    obtain rfl := h_60
    refine g_topci (nI k) (ek) ?_
    refine g_call0i C (rd_S C (k_X5_size l D q tt k hk) gX5_many_X5_size rfl rfl rfl 1 ok_X5_size (rest := []) rfl rfl (Nat.le_of_ble_eq_true rfl) dX5_many_63 ⟨(Nat.le_of_ble_eq_true rfl), (Nat.le_of_ble_eq_true rfl)⟩ ⟨(Nat.le_of_ble_eq_true rfl), (Nat.le_of_ble_eq_true rfl)⟩) (fun _ => rfl) (fun r_63 _ h_63 => ?_)
    obtain rfl := h_63
    exact g_iret C () hr dX5_many_66 (Nat.le_of_ble_eq_true rfl) (Nat.le_of_ble_eq_true rfl) rfl (by unfold R_many; rw [if_neg s_3_0, if_neg s_3_1, if_pos s_3_2]; rw [ek, nI_clamp (by omega)])
  by_cases s_3_3 : x = 3
  · refine g_tin C 67 dX5_many_3 (by rw [s_3_3]; decide) (by rw [s_3_3]; decide) (by rw [s_3_3]; rfl) rfl ?_
    refine g_iconst C 0 dX5_many_67 (by decide) ?_
    refine g_istoren C [(3, .int 0), (2, .int 0), (0, .ref (a 0)), (1, .int x)] dX5_many_68 rfl (by decide) rfl ?_
    have J_69 : ∀ (fu : Nat) (i : Nat), N - i < fu → (i ≤ N) → G p l e ({ frames := 2, cells := 0, slots := 0, locals := 44 } : Room) s m args below meth c 4 D A (MQ below (va_Qi (fun (r : Int32) (u : Unit) => r = R_many (m_s v) N (m_rowN v) (m_taped v) (m_ran v) x) (Bw D A (fun (_ : Unit) => (mw q a v))) A) args s 0 0 A) 69 [(0, .ref (a 0)), (1, .int x), (2, .int (sumI (p99T (m_s v)) i)), (3, .int (nI i))] [] (mw q a v) 0 0 := by
      intro fu
      induction fu with
      | zero =>
        intro i hfu
        exact absurd hfu (Nat.not_lt_zero _)
      | succ fu ih =>
        intro i hfu hi
        refine g_iloadn C dX5_many_69 3 rfl rfl ?_
        refine g_aloadn C dX5_many_70 0 rfl rfl ?_
        refine g_get C fx5 w_0 0 0 (v := .ref (a 1)) rfl (by decide) w_1 rfl dX5_many_71 ?_
        refine g_iconst C 0 dX5_many_74 (by decide) ?_
        refine g_iald C 1 (0) (f := (m_s v)) rfl rfl (by omega) (by decide) dX5_many_75 ?_
        refine g_topci (nI N) (hG.n) ?_
        refine g_icmpN_ge C 104 (i) (N) dX5_many_76 rfl (by omega) (by omega) (fun c_76 => ?_) (fun c_76 => ?_)
        · refine g_iloadn C dX5_many_104 2 rfl rfl ?_
          exact g_iret C () hr dX5_many_105 (Nat.le_of_ble_eq_true rfl) (Nat.le_of_ble_eq_true rfl) rfl (by unfold R_many; rw [if_neg s_3_0, if_neg s_3_1, if_neg s_3_2, if_pos s_3_3]; rw [show i = N by omega])
        · refine g_iloadn C dX5_many_79 2 rfl rfl ?_
          refine g_aloadn C dX5_many_80 0 rfl rfl ?_
          refine g_iloadn C dX5_many_81 3 rfl rfl ?_
          refine g_iconst C 1 dX5_many_82 (by decide) ?_
          refine g_callAi C (rd_V C (k_X5_its l D q tt a v i 1 (by first | assumption | omega) (by first | assumption | omega)) gX5_many_X5_its rfl rfl rfl 2 ok_X5_its rfl 0 rfl rfl (rest := [.int (sumI (p99T (m_s v)) i)]) rfl rfl (Nat.le_of_ble_eq_true rfl) dX5_many_83 ⟨(Nat.le_of_ble_eq_true rfl), (Nat.le_of_ble_eq_true rfl)⟩ ⟨(Nat.le_of_ble_eq_true rfl), (Nat.le_of_ble_eq_true rfl)⟩) (fun r_83 _ h_83 => ?_)
          obtain rfl := h_83
          refine g_bipush C 99 dX5_many_86 (by decide) ?_
          refine g_icmp_ne C 95 dX5_many_88 rfl (fun c_88 => ?_) (fun c_88 => ?_)
          · refine g_iconst C 0 dX5_many_95 (by decide) ?_
            refine g_iadd C dX5_many_96 ?_
            refine g_topci (sumI (p99T (m_s v)) (i + 1)) (by show sumI _ i + _ = sumI _ i + p99T _ i; unfold p99T; first | rw [if_pos (show sP (m_s v) i = 99 from c_88)] | rw [if_neg (show ¬ sP (m_s v) i = 99 from c_88)]) ?_
            refine g_istoren C [(2, .int (sumI (p99T (m_s v)) (i + 1))), (0, .ref (a 0)), (1, .int x), (3, .int (nI i))] dX5_many_97 rfl (by decide) rfl ?_
            refine g_iinc C (nI (i + 1)) [(3, .int (nI (i + 1))), (2, .int (sumI (p99T (m_s v)) (i + 1))), (0, .ref (a 0)), (1, .int x)] dX5_many_98 3 rfl (nI_add i 1) (by decide) rfl ?_
            refine g_goto C 69 dX5_many_101 rfl ?_
            refine g_sub [2, 3, 1, 0] (lv' := [(0, .ref (a 0)), (1, .int x), (2, .int (sumI (p99T (m_s v)) (i + 1))), (3, .int (nI (i + 1)))]) rfl ?_
            exact ih ((i + 1)) (by omega) (by first | assumption | omega)
          · refine g_iconst C 1 dX5_many_91 (by decide) ?_
            refine g_goto C 96 dX5_many_92 rfl ?_
            refine g_iadd C dX5_many_96 ?_
            refine g_topci (sumI (p99T (m_s v)) (i + 1)) (by show sumI _ i + _ = sumI _ i + p99T _ i; unfold p99T; first | rw [if_pos (show sP (m_s v) i = 99 from c_88)] | rw [if_neg (show ¬ sP (m_s v) i = 99 from c_88)]) ?_
            refine g_istoren C [(2, .int (sumI (p99T (m_s v)) (i + 1))), (0, .ref (a 0)), (1, .int x), (3, .int (nI i))] dX5_many_97 rfl (by decide) rfl ?_
            refine g_iinc C (nI (i + 1)) [(3, .int (nI (i + 1))), (2, .int (sumI (p99T (m_s v)) (i + 1))), (0, .ref (a 0)), (1, .int x)] dX5_many_98 3 rfl (nI_add i 1) (by decide) rfl ?_
            refine g_goto C 69 dX5_many_101 rfl ?_
            refine g_sub [2, 3, 1, 0] (lv' := [(0, .ref (a 0)), (1, .int x), (2, .int (sumI (p99T (m_s v)) (i + 1))), (3, .int (nI (i + 1)))]) rfl ?_
            exact ih ((i + 1)) (by omega) (by first | assumption | omega)
    refine g_sub [2, 3, 1, 0] (lv' := [(0, .ref (a 0)), (1, .int x), (2, .int 0), (3, .int 0)]) rfl ?_
    exact J_69 _ (0) (Nat.lt_succ_self _) (by first | assumption | omega)
  by_cases s_3_4 : x = 4
  · refine g_tin C 106 dX5_many_3 (by rw [s_3_4]; decide) (by rw [s_3_4]; decide) (by rw [s_3_4]; rfl) rfl ?_
    refine g_aloadn C dX5_many_106 1 rfl rfl ?_
    refine g_get C fx5 w_0 0 16 (v := .int (m_rowN v)) rfl (by decide) w_2 rfl dX5_many_107 ?_
    exact g_iret C () hr dX5_many_110 (Nat.le_of_ble_eq_true rfl) (Nat.le_of_ble_eq_true rfl) rfl (by unfold R_many; rw [if_neg s_3_0, if_neg s_3_1, if_neg s_3_2, if_neg s_3_3, if_pos s_3_4])
  by_cases s_3_5 : x = 5
  · refine g_tin C 111 dX5_many_3 (by rw [s_3_5]; decide) (by rw [s_3_5]; decide) (by rw [s_3_5]; rfl) rfl ?_
    refine g_aloadn C dX5_many_111 1 rfl rfl ?_
    refine g_get C fx5 w_0 0 7 (v := .int (m_taped v)) rfl (by decide) w_3 rfl dX5_many_112 ?_
    exact g_iret C () hr dX5_many_115 (Nat.le_of_ble_eq_true rfl) (Nat.le_of_ble_eq_true rfl) rfl (by unfold R_many; rw [if_neg s_3_0, if_neg s_3_1, if_neg s_3_2, if_neg s_3_3, if_neg s_3_4, if_pos s_3_5])
  by_cases s_3_6 : x = 6
  · refine g_tin C 116 dX5_many_3 (by rw [s_3_6]; decide) (by rw [s_3_6]; decide) (by rw [s_3_6]; rfl) rfl ?_
    refine g_aloadn C dX5_many_116 1 rfl rfl ?_
    refine g_get C fx5 w_0 0 24 (v := .int (m_ran v)) rfl (by decide) w_4 rfl dX5_many_117 ?_
    exact g_iret C () hr dX5_many_120 (Nat.le_of_ble_eq_true rfl) (Nat.le_of_ble_eq_true rfl) rfl (by unfold R_many; rw [if_neg s_3_0, if_neg s_3_1, if_neg s_3_2, if_neg s_3_3, if_neg s_3_4, if_neg s_3_5, if_pos s_3_6])
  have ns_3_0 := lv_neT s_3_0 (a := 0) (by decide)
  have ns_3_1 := lv_neT s_3_1 (a := 1) (by decide)
  have ns_3_2 := lv_neT s_3_2 (a := 2) (by decide)
  have ns_3_3 := lv_neT s_3_3 (a := 3) (by decide)
  have ns_3_4 := lv_neT s_3_4 (a := 4) (by decide)
  have ns_3_5 := lv_neT s_3_5 (a := 5) (by decide)
  have ns_3_6 := lv_neT s_3_6 (a := 6) (by decide)
  refine g_tout C 121 dX5_many_3 (by omega) rfl ?_
  refine g_iconst C (-1) dX5_many_121 (by decide) ?_
  exact g_iret C () hr dX5_many_122 (Nat.le_of_ble_eq_true rfl) (Nat.le_of_ble_eq_true rfl) rfl (by unfold R_many; rw [if_neg s_3_0, if_neg s_3_1, if_neg s_3_2, if_neg s_3_3, if_neg s_3_4, if_neg s_3_5, if_neg s_3_6])

