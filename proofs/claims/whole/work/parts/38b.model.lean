set_option maxRecDepth 100000 in
set_option maxHeartbeats 4000000 in
theorem k_X5_begins (l : Launch) (D : va_G) (q : Nat → ClassId) (tt : Nat → Nat) (a : Nat → Nat) (v : MC)  : MV l D q tt yX5_begins wsX5_begins ({ frames := 0, cells := 0, slots := 0, locals := 0 } : Room) [.ref (a 0)] (mw q a v) (fun (u : Unit) => True) (fun (_ : Unit) => (mw q a ((bgS (m_s v)), (m_held v), (m_aside v), (m_before v), (m_untried v), (m_isHeld v), (m_tape v), (m_taped v), (m_token v), (m_from v), (m_to v), (m_value v), (m_isWrong v), (m_heard v), (m_isMoved v), (m_rows v), (m_rowN v), (m_sortOf v), (m_sizeOf v), (m_numbers v), (m_holdsWhat v), (m_holdsWhich v), (m_holdsMany v), (m_bodies v), (m_ran v), (m_actKind v), (m_actN v), (m_actA v), (m_isParted v)))) 0 0 := by
  refine MV.of RX5 [(0, .ref (a 0))] (by decide) rfl rfl (Nat.le_of_ble_eq_true rfl) rfl ?_
  intro p e s m args below meth c A C hr hnm
  have w_0 : ∀ w ∈ u_ws RX5 TX5 29, w ∈ wsX5_begins := by decide +kernel
  have w_1 : Cond.fieldLink RX5 7 (TX5 0).1 (TX5 0).2.1 (TX5 0).2.2.1 ∈ wsX5_begins := by decide +kernel
  refine g_aloadn C dX5_begins_0 0 rfl rfl ?_
  refine g_get C fx5 w_0 0 0 (v := .ref (a 1)) rfl (by decide) w_1 rfl dX5_begins_1 ?_
  refine g_iconst C 2 dX5_begins_4 (by decide) ?_
  refine g_iald C 1 (2) (f := (m_s v)) rfl rfl (by omega) (by decide) dX5_begins_5 ?_
  refine g_istoren C [(1, .int ((m_s v) 2)), (0, .ref (a 0))] dX5_begins_6 rfl (by decide) rfl ?_
  refine g_iconst C 0 dX5_begins_7 (by decide) ?_
  refine g_istoren C [(2, .int 0), (1, .int ((m_s v) 2)), (0, .ref (a 0))] dX5_begins_8 rfl (by decide) rfl ?_
  have J_9 : ∀ (fu : Nat) (i : Nat), 47 - i < fu → (i ≤ 47) → G p l e ({ frames := 0, cells := 0, slots := 0, locals := 0 } : Room) s m args below meth c 3 D A (MQ below (va_Qv (fun (u : Unit) => True) (Bw D A (fun (_ : Unit) => (mw q a ((bgS (m_s v)), (m_held v), (m_aside v), (m_before v), (m_untried v), (m_isHeld v), (m_tape v), (m_taped v), (m_token v), (m_from v), (m_to v), (m_value v), (m_isWrong v), (m_heard v), (m_isMoved v), (m_rows v), (m_rowN v), (m_sortOf v), (m_sizeOf v), (m_numbers v), (m_holdsWhat v), (m_holdsWhich v), (m_holdsMany v), (m_bodies v), (m_ran v), (m_actKind v), (m_actN v), (m_actA v), (m_isParted v))))) A) args s 0 0 A) 9 [(0, .ref (a 0)), (1, .int ((m_s v) 2)), (2, .int (nI i))] [] (mw q a ((zrN (m_s v) i), (m_held v), (m_aside v), (m_before v), (m_untried v), (m_isHeld v), (m_tape v), (m_taped v), (m_token v), (m_from v), (m_to v), (m_value v), (m_isWrong v), (m_heard v), (m_isMoved v), (m_rows v), (m_rowN v), (m_sortOf v), (m_sizeOf v), (m_numbers v), (m_holdsWhat v), (m_holdsWhich v), (m_holdsMany v), (m_bodies v), (m_ran v), (m_actKind v), (m_actN v), (m_actA v), (m_isParted v))) 0 0 := by
    intro fu
    induction fu with
    | zero =>
      intro i hfu
      exact absurd hfu (Nat.not_lt_zero _)
    | succ fu ih =>
      intro i hfu hi
      refine g_iloadn C dX5_begins_9 2 rfl rfl ?_
      refine g_bipush C 47 dX5_begins_10 (by decide) ?_
      refine g_icmpN_ge C 28 (i) (47) dX5_begins_12 rfl (by omega) (by omega) (fun c_12 => ?_) (fun c_12 => ?_)
      · refine g_aloadn C dX5_begins_28 0 rfl rfl ?_
        refine g_get C fx5 w_0 0 0 (v := .ref (a 1)) rfl (by decide) w_1 rfl dX5_begins_29 ?_
        refine g_iconst C 2 dX5_begins_32 (by decide) ?_
        refine g_iloadn C dX5_begins_33 1 rfl rfl ?_
        refine g_iast C 1 (2) (f := (zrN (m_s v) i)) rfl rfl (by omega) (by decide) dX5_begins_34 (mw q a ((upd (zrN (m_s v) i) 2 ((m_s v) 2)), (m_held v), (m_aside v), (m_before v), (m_untried v), (m_isHeld v), (m_tape v), (m_taped v), (m_token v), (m_from v), (m_to v), (m_value v), (m_isWrong v), (m_heard v), (m_isMoved v), (m_rows v), (m_rowN v), (m_sortOf v), (m_sizeOf v), (m_numbers v), (m_holdsWhat v), (m_holdsWhich v), (m_holdsMany v), (m_bodies v), (m_ran v), (m_actKind v), (m_actN v), (m_actA v), (m_isParted v))) rfl ?_
        refine g_aloadn C dX5_begins_35 0 rfl rfl ?_
        refine g_get C fx5 w_0 0 0 (v := .ref (a 1)) rfl (by decide) w_1 rfl dX5_begins_36 ?_
        refine g_iconst C 3 dX5_begins_39 (by decide) ?_
        refine g_iconst C 2 dX5_begins_40 (by decide) ?_
        refine g_iast C 1 (3) (f := (upd (zrN (m_s v) i) 2 ((m_s v) 2))) rfl rfl (by omega) (by decide) dX5_begins_41 (mw q a ((upd (upd (zrN (m_s v) i) 2 ((m_s v) 2)) 3 2), (m_held v), (m_aside v), (m_before v), (m_untried v), (m_isHeld v), (m_tape v), (m_taped v), (m_token v), (m_from v), (m_to v), (m_value v), (m_isWrong v), (m_heard v), (m_isMoved v), (m_rows v), (m_rowN v), (m_sortOf v), (m_sizeOf v), (m_numbers v), (m_holdsWhat v), (m_holdsWhich v), (m_holdsMany v), (m_bodies v), (m_ran v), (m_actKind v), (m_actN v), (m_actA v), (m_isParted v))) rfl ?_
        refine g_aloadn C dX5_begins_42 0 rfl rfl ?_
        refine g_get C fx5 w_0 0 0 (v := .ref (a 1)) rfl (by decide) w_1 rfl dX5_begins_43 ?_
        refine g_iconst C 4 dX5_begins_46 (by decide) ?_
        refine g_iconst C 3 dX5_begins_47 (by decide) ?_
        refine g_iast C 1 (4) (f := (upd (upd (zrN (m_s v) i) 2 ((m_s v) 2)) 3 2)) rfl rfl (by omega) (by decide) dX5_begins_48 (mw q a ((upd (upd (upd (zrN (m_s v) i) 2 ((m_s v) 2)) 3 2) 4 3), (m_held v), (m_aside v), (m_before v), (m_untried v), (m_isHeld v), (m_tape v), (m_taped v), (m_token v), (m_from v), (m_to v), (m_value v), (m_isWrong v), (m_heard v), (m_isMoved v), (m_rows v), (m_rowN v), (m_sortOf v), (m_sizeOf v), (m_numbers v), (m_holdsWhat v), (m_holdsWhich v), (m_holdsMany v), (m_bodies v), (m_ran v), (m_actKind v), (m_actN v), (m_actA v), (m_isParted v))) rfl ?_
        refine g_aloadn C dX5_begins_49 0 rfl rfl ?_
        refine g_get C fx5 w_0 0 0 (v := .ref (a 1)) rfl (by decide) w_1 rfl dX5_begins_50 ?_
        refine g_iconst C 5 dX5_begins_53 (by decide) ?_
        refine g_iconst C 1 dX5_begins_54 (by decide) ?_
        refine g_iast C 1 (5) (f := (upd (upd (upd (zrN (m_s v) i) 2 ((m_s v) 2)) 3 2) 4 3)) rfl rfl (by omega) (by decide) dX5_begins_55 (mw q a ((upd (upd (upd (upd (zrN (m_s v) i) 2 ((m_s v) 2)) 3 2) 4 3) 5 1), (m_held v), (m_aside v), (m_before v), (m_untried v), (m_isHeld v), (m_tape v), (m_taped v), (m_token v), (m_from v), (m_to v), (m_value v), (m_isWrong v), (m_heard v), (m_isMoved v), (m_rows v), (m_rowN v), (m_sortOf v), (m_sizeOf v), (m_numbers v), (m_holdsWhat v), (m_holdsWhich v), (m_holdsMany v), (m_bodies v), (m_ran v), (m_actKind v), (m_actN v), (m_actA v), (m_isParted v))) rfl ?_
        refine g_aloadn C dX5_begins_56 0 rfl rfl ?_
        refine g_get C fx5 w_0 0 0 (v := .ref (a 1)) rfl (by decide) w_1 rfl dX5_begins_57 ?_
        refine g_bipush C 6 dX5_begins_60 (by decide) ?_
        refine g_bipush C 20 dX5_begins_62 (by decide) ?_
        refine g_iast C 1 (6) (f := (upd (upd (upd (upd (zrN (m_s v) i) 2 ((m_s v) 2)) 3 2) 4 3) 5 1)) rfl rfl (by omega) (by decide) dX5_begins_64 (mw q a ((upd (upd (upd (upd (upd (zrN (m_s v) i) 2 ((m_s v) 2)) 3 2) 4 3) 5 1) 6 20), (m_held v), (m_aside v), (m_before v), (m_untried v), (m_isHeld v), (m_tape v), (m_taped v), (m_token v), (m_from v), (m_to v), (m_value v), (m_isWrong v), (m_heard v), (m_isMoved v), (m_rows v), (m_rowN v), (m_sortOf v), (m_sizeOf v), (m_numbers v), (m_holdsWhat v), (m_holdsWhich v), (m_holdsMany v), (m_bodies v), (m_ran v), (m_actKind v), (m_actN v), (m_actA v), (m_isParted v))) rfl ?_
        refine g_wsc (mw q a ((bgS (m_s v)), (m_held v), (m_aside v), (m_before v), (m_untried v), (m_isHeld v), (m_tape v), (m_taped v), (m_token v), (m_from v), (m_to v), (m_value v), (m_isWrong v), (m_heard v), (m_isMoved v), (m_rows v), (m_rowN v), (m_sortOf v), (m_sizeOf v), (m_numbers v), (m_holdsWhat v), (m_holdsWhich v), (m_holdsMany v), (m_bodies v), (m_ran v), (m_actKind v), (m_actN v), (m_actA v), (m_isParted v))) (by rw [show i = 47 by omega, zr_bg]) ?_
        exact g_vret C () hr dX5_begins_65 (Nat.le_of_ble_eq_true rfl) (Nat.le_of_ble_eq_true rfl) rfl (trivial)
      · refine g_aloadn C dX5_begins_15 0 rfl rfl ?_
        refine g_get C fx5 w_0 0 0 (v := .ref (a 1)) rfl (by decide) w_1 rfl dX5_begins_16 ?_
        refine g_iloadn C dX5_begins_19 2 rfl rfl ?_
        refine g_iconst C 0 dX5_begins_20 (by decide) ?_
        refine g_iast C 1 (i) (f := (zrN (m_s v) i)) rfl rfl (by omega) (by decide) dX5_begins_21 (mw q a ((upd (zrN (m_s v) i) i 0), (m_held v), (m_aside v), (m_before v), (m_untried v), (m_isHeld v), (m_tape v), (m_taped v), (m_token v), (m_from v), (m_to v), (m_value v), (m_isWrong v), (m_heard v), (m_isMoved v), (m_rows v), (m_rowN v), (m_sortOf v), (m_sizeOf v), (m_numbers v), (m_holdsWhat v), (m_holdsWhich v), (m_holdsMany v), (m_bodies v), (m_ran v), (m_actKind v), (m_actN v), (m_actA v), (m_isParted v))) rfl ?_
        refine g_wsc (mw q a ((zrN (m_s v) (i + 1)), (m_held v), (m_aside v), (m_before v), (m_untried v), (m_isHeld v), (m_tape v), (m_taped v), (m_token v), (m_from v), (m_to v), (m_value v), (m_isWrong v), (m_heard v), (m_isMoved v), (m_rows v), (m_rowN v), (m_sortOf v), (m_sizeOf v), (m_numbers v), (m_holdsWhat v), (m_holdsWhich v), (m_holdsMany v), (m_bodies v), (m_ran v), (m_actKind v), (m_actN v), (m_actA v), (m_isParted v))) (by rw [zr_s]) ?_
        refine g_iinc C (nI (i + 1)) [(2, .int (nI (i + 1))), (0, .ref (a 0)), (1, .int ((m_s v) 2))] dX5_begins_22 2 rfl (nI_add i 1) (by decide) rfl ?_
        refine g_goto C 9 dX5_begins_25 rfl ?_
        refine g_sub [1, 2, 0] (lv' := [(0, .ref (a 0)), (1, .int ((m_s v) 2)), (2, .int (nI (i + 1)))]) rfl ?_
        exact ih ((i + 1)) (by omega) (by first | assumption | omega)
  refine g_wsc (mw q a ((zrN (m_s v) 0), (m_held v), (m_aside v), (m_before v), (m_untried v), (m_isHeld v), (m_tape v), (m_taped v), (m_token v), (m_from v), (m_to v), (m_value v), (m_isWrong v), (m_heard v), (m_isMoved v), (m_rows v), (m_rowN v), (m_sortOf v), (m_sizeOf v), (m_numbers v), (m_holdsWhat v), (m_holdsWhich v), (m_holdsMany v), (m_bodies v), (m_ran v), (m_actKind v), (m_actN v), (m_actA v), (m_isParted v))) (by rw [zr_0]) ?_
  refine g_sub [2, 1, 0] (lv' := [(0, .ref (a 0)), (1, .int ((m_s v) 2)), (2, .int 0)]) rfl ?_
  exact J_9 _ (0) (Nat.lt_succ_self _) (by first | assumption | omega)

set_option maxRecDepth 100000 in
set_option maxHeartbeats 4000000 in
theorem k_X5_opera (l : Launch) (D : va_G) (q : Nat → ClassId) (tt : Nat → Nat) (a : Nat → Nat) (v : MC) (n : Nat) (N : Nat) (htn : (m_taped v) = nI n) (hn2 : n ≤ 200) (hU : TPU (m_tape v) n) (hG : Gd (m_s v) N) : MI l D q tt yX5_opera wsX5_opera ({ frames := 7, cells := 0, slots := 0, locals := 154 } : Room) [.ref (a 0)] (mw q a v) (fun (r : Int32) (u : (Nat → Int32) × (Nat → Int32) × Int32 × Int32 × Int32 × Int32 × Int32 × Int32) => r = R_opera (m_tape v) n (m_s v) ∧ u.1 = (if (opR (m_tape v) n (m_s v)).1 = 0 then (opR (m_tape v) n (m_s v)).2.2.1 else (m_s v)) ∧ u.2.2.2.2.2.2.2 = (if (opR (m_tape v) n (m_s v)).1 = 0 then 0 else (m_rowN v))) (fun u => (mw q a (u.1, (m_held v), (m_aside v), u.2.1, (m_untried v), (m_isHeld v), (m_tape v), 0, u.2.2.1, u.2.2.2.1, u.2.2.2.2.1, u.2.2.2.2.2.1, u.2.2.2.2.2.2.1, (m_heard v), (m_isMoved v), (m_rows v), u.2.2.2.2.2.2.2, (m_sortOf v), (m_sizeOf v), (m_numbers v), (m_holdsWhat v), (m_holdsWhich v), (m_holdsMany v), (m_bodies v), (m_ran v), (m_actKind v), (m_actN v), (m_actA v), (m_isParted v)))) 0 0 := by
  refine MI.of RX5 [(0, .ref (a 0))] (by decide) rfl rfl (Nat.le_of_ble_eq_true rfl) rfl ?_
  intro p e s m args below meth c A C hr hnm
  have w_0 : ∀ w ∈ u_ws RX5 TX5 29, w ∈ wsX5_opera := by decide +kernel
  have w_1 : Cond.fieldLink RX5 7 (TX5 0).1 (TX5 0).2.1 (TX5 0).2.2.1 ∈ wsX5_opera := by decide +kernel
  have w_2 : Cond.fieldLink RX5 19 (TX5 3).1 (TX5 3).2.1 (TX5 3).2.2.1 ∈ wsX5_opera := by decide +kernel
  have w_3 : Cond.fieldLink RX5 74 (TX5 10).1 (TX5 10).2.1 (TX5 10).2.2.1 ∈ wsX5_opera := by decide +kernel
  have w_4 : Cond.fieldLink RX5 97 (TX5 12).1 (TX5 12).2.1 (TX5 12).2.2.1 ∈ wsX5_opera := by decide +kernel
  have w_5 : Cond.fieldLink RX5 68 (TX5 7).1 (TX5 7).2.1 (TX5 7).2.2.1 ∈ wsX5_opera := by decide +kernel
  have w_6 : Cond.fieldLink RX5 77 (TX5 9).1 (TX5 9).2.1 (TX5 9).2.2.1 ∈ wsX5_opera := by decide +kernel
  have w_7 : Cond.fieldLink RX5 91 (TX5 8).1 (TX5 8).2.1 (TX5 8).2.2.1 ∈ wsX5_opera := by decide +kernel
  have w_8 : Cond.fieldLink RX5 149 (TX5 16).1 (TX5 16).2.1 (TX5 16).2.2.1 ∈ wsX5_opera := by decide +kernel
  have h8 := hG.le
  refine g_aloadn C dX5_opera_0 0 rfl rfl ?_
  refine g_get C fx5 w_0 0 0 (v := .ref (a 1)) rfl (by decide) w_1 rfl dX5_opera_1 ?_
  refine g_aloadn C dX5_opera_4 0 rfl rfl ?_
  refine g_get C fx5 w_0 0 3 (v := .ref (a 4)) rfl (by decide) w_2 rfl dX5_opera_5 ?_
  refine g_callWv (w1 := (mw q a v)) (wr := ([0, 2, 3, 5, 6, 7, 8, 9, 10, 11, 12, 13, 14, 15, 16] : List Nat).filterMap (fun i => (mw q a v)[i]?)) (isC := [1, 4]) (isR := [0, 2, 3, 5, 6, 7, 8, 9, 10, 11, 12, 13, 14, 15, 16]) (pm := [0, 15, 1, 2, 16, 3, 4, 5, 6, 7, 8, 9, 10, 11, 12, 13, 14]) (w1' := (fun _ => (mw q a ((m_s v), (m_held v), (m_aside v), (cp47 (m_s v) (m_before v)), (m_untried v), (m_isHeld v), (m_tape v), (m_taped v), (m_token v), (m_from v), (m_to v), (m_value v), (m_isWrong v), (m_heard v), (m_isMoved v), (m_rows v), (m_rowN v), (m_sortOf v), (m_sizeOf v), (m_numbers v), (m_holdsWhat v), (m_holdsWhich v), (m_holdsMany v), (m_bodies v), (m_ran v), (m_actKind v), (m_actN v), (m_actA v), (m_isParted v))))) C (rd_S C (k_X5_copyRow l D q tt (a 1) (a 4) (m_s v) (m_before v) ) gX5_opera_X5_copyRow rfl rfl rfl 2 ok_X5_copyRow (rest := []) rfl rfl (Nat.le_of_ble_eq_true rfl) dX5_opera_8 ⟨(Nat.le_of_ble_eq_true rfl), (Nat.le_of_ble_eq_true rfl)⟩ ⟨(Nat.le_of_ble_eq_true rfl), (Nat.le_of_ble_eq_true rfl)⟩) rfl rfl rfl (fun _ => rfl) rfl (fun _ h_8 => ?_)
  refine g_aloadn C dX5_opera_11 0 rfl rfl ?_
  refine g_callAv C (rd_V C (k_X5_begins l D q tt a ((m_s v), (m_held v), (m_aside v), (cp47 (m_s v) (m_before v)), (m_untried v), (m_isHeld v), (m_tape v), (m_taped v), (m_token v), (m_from v), (m_to v), (m_value v), (m_isWrong v), (m_heard v), (m_isMoved v), (m_rows v), (m_rowN v), (m_sortOf v), (m_sizeOf v), (m_numbers v), (m_holdsWhat v), (m_holdsWhich v), (m_holdsMany v), (m_bodies v), (m_ran v), (m_actKind v), (m_actN v), (m_actA v), (m_isParted v)) ) gX5_opera_X5_begins rfl rfl rfl 0 ok_X5_begins rfl 0 rfl rfl (rest := []) rfl rfl (Nat.le_of_ble_eq_true rfl) dX5_opera_12 ⟨(Nat.le_of_ble_eq_true rfl), (Nat.le_of_ble_eq_true rfl)⟩ ⟨(Nat.le_of_ble_eq_true rfl), (Nat.le_of_ble_eq_true rfl)⟩) (fun _ h_12 => ?_)
  refine g_wsc (mw q a ((bgS (m_s v)), (m_held v), (m_aside v), (cp47 (m_s v) (m_before v)), (m_untried v), (m_isHeld v), (m_tape v), (m_taped v), (m_token v), (m_from v), (m_to v), (m_value v), (m_isWrong v), (m_heard v), (m_isMoved v), (m_rows v), (m_rowN v), (m_sortOf v), (m_sizeOf v), (m_numbers v), (m_holdsWhat v), (m_holdsWhich v), (m_holdsMany v), (m_bodies v), (m_ran v), (m_actKind v), (m_actN v), (m_actA v), (m_isParted v))) rfl ?_
  refine g_aloadn C dX5_opera_15 0 rfl rfl ?_
  refine g_iconst C 0 dX5_opera_16 (by decide) ?_
  refine g_put C fx5 w_0 0 10 rfl (by decide) w_3 rfl rfl rfl (Nat.le_of_ble_eq_true rfl) dX5_opera_17 (mw q a ((bgS (m_s v)), (m_held v), (m_aside v), (cp47 (m_s v) (m_before v)), (m_untried v), (m_isHeld v), (m_tape v), (m_taped v), (m_token v), (m_from v), 0, (m_value v), (m_isWrong v), (m_heard v), (m_isMoved v), (m_rows v), (m_rowN v), (m_sortOf v), (m_sizeOf v), (m_numbers v), (m_holdsWhat v), (m_holdsWhich v), (m_holdsMany v), (m_bodies v), (m_ran v), (m_actKind v), (m_actN v), (m_actA v), (m_isParted v))) (by dsimp only [mw, List.set, m_s, m_held, m_aside, m_before, m_untried, m_isHeld, m_tape, m_taped, m_token, m_from, m_to, m_value, m_isWrong, m_heard, m_isMoved, m_rows, m_rowN, m_sortOf, m_sizeOf, m_numbers, m_holdsWhat, m_holdsWhich, m_holdsMany, m_bodies, m_ran, m_actKind, m_actN, m_actA, m_isParted]) ?_
  refine g_aloadn C dX5_opera_20 0 rfl rfl ?_
  refine g_iconst C 0 dX5_opera_21 (by decide) ?_
  refine g_put C fx5 w_0 0 12 rfl (by decide) w_4 rfl rfl rfl (Nat.le_of_ble_eq_true rfl) dX5_opera_22 (mw q a ((bgS (m_s v)), (m_held v), (m_aside v), (cp47 (m_s v) (m_before v)), (m_untried v), (m_isHeld v), (m_tape v), (m_taped v), (m_token v), (m_from v), 0, (m_value v), 0, (m_heard v), (m_isMoved v), (m_rows v), (m_rowN v), (m_sortOf v), (m_sizeOf v), (m_numbers v), (m_holdsWhat v), (m_holdsWhich v), (m_holdsMany v), (m_bodies v), (m_ran v), (m_actKind v), (m_actN v), (m_actA v), (m_isParted v))) (by dsimp only [mw, List.set, m_s, m_held, m_aside, m_before, m_untried, m_isHeld, m_tape, m_taped, m_token, m_from, m_to, m_value, m_isWrong, m_heard, m_isMoved, m_rows, m_rowN, m_sortOf, m_sizeOf, m_numbers, m_holdsWhat, m_holdsWhich, m_holdsMany, m_bodies, m_ran, m_actKind, m_actN, m_actA, m_isParted]) ?_
  refine g_aloadn C dX5_opera_25 0 rfl rfl ?_
  refine g_callAv C (rd_V C (k_X5_nextToken l D q tt a ((bgS (m_s v)), (m_held v), (m_aside v), (cp47 (m_s v) (m_before v)), (m_untried v), (m_isHeld v), (m_tape v), (m_taped v), (m_token v), (m_from v), (m_to v), (m_value v), 0, (m_heard v), (m_isMoved v), (m_rows v), (m_rowN v), (m_sortOf v), (m_sizeOf v), (m_numbers v), (m_holdsWhat v), (m_holdsWhich v), (m_holdsMany v), (m_bodies v), (m_ran v), (m_actKind v), (m_actN v), (m_actA v), (m_isParted v)) n 0 (by first | assumption | omega) (by first | assumption | omega) (by first | assumption | omega) (Nat.zero_le n)) gX5_opera_X5_nextToken rfl rfl rfl 0 ok_X5_nextToken rfl 0 rfl rfl (rest := []) rfl rfl (Nat.le_of_ble_eq_true rfl) dX5_opera_26 ⟨(Nat.le_of_ble_eq_true rfl), (Nat.le_of_ble_eq_true rfl)⟩ ⟨(Nat.le_of_ble_eq_true rfl), (Nat.le_of_ble_eq_true rfl)⟩) (fun _ h_26 => ?_)
  refine g_wsc (mw q a ((bgS (m_s v)), (m_held v), (m_aside v), (cp47 (m_s v) (m_before v)), (m_untried v), (m_isHeld v), (m_tape v), (m_taped v), (nI (kdT (m_tape v) n (FB (m_tape v) n 0))), (nI (FB (m_tape v) n 0)), (nI (EN (m_tape v) n (FB (m_tape v) n 0))), (vlT (m_tape v) n (FB (m_tape v) n 0)), 0, (m_heard v), (m_isMoved v), (m_rows v), (m_rowN v), (m_sortOf v), (m_sizeOf v), (m_numbers v), (m_holdsWhat v), (m_holdsWhich v), (m_holdsMany v), (m_bodies v), (m_ran v), (m_actKind v), (m_actN v), (m_actA v), (m_isParted v))) rfl ?_
  have J_29 : ∀ (fu : Nat) (f : Nat) (w : Int32) (T : Nat → Int32) (M : Nat) (k : Nat), k < fu → (f ≤ n) → (∀ k, 47 ≤ k → T k = (m_s v) k) → (opI (m_tape v) n (m_s v) f w T M k) → (w = 0 → 1 ≤ k) → G p l e ({ frames := 7, cells := 0, slots := 0, locals := 154 } : Room) s m args below meth c 1 D A (MQ below (va_Qi (fun (r : Int32) (u : (Nat → Int32) × (Nat → Int32) × Int32 × Int32 × Int32 × Int32 × Int32 × Int32) => r = R_opera (m_tape v) n (m_s v) ∧ u.1 = (if (opR (m_tape v) n (m_s v)).1 = 0 then (opR (m_tape v) n (m_s v)).2.2.1 else (m_s v)) ∧ u.2.2.2.2.2.2.2 = (if (opR (m_tape v) n (m_s v)).1 = 0 then 0 else (m_rowN v))) (Bw D A (fun u => (mw q a (u.1, (m_held v), (m_aside v), u.2.1, (m_untried v), (m_isHeld v), (m_tape v), 0, u.2.2.1, u.2.2.2.1, u.2.2.2.2.1, u.2.2.2.2.2.1, u.2.2.2.2.2.2.1, (m_heard v), (m_isMoved v), (m_rows v), u.2.2.2.2.2.2.2, (m_sortOf v), (m_sizeOf v), (m_numbers v), (m_holdsWhat v), (m_holdsWhich v), (m_holdsMany v), (m_bodies v), (m_ran v), (m_actKind v), (m_actN v), (m_actA v), (m_isParted v))))) A) args s 0 0 A) 29 [(0, .ref (a 0))] [] (mw q a (T, (m_held v), (m_aside v), (cp47 (m_s v) (m_before v)), (m_untried v), (m_isHeld v), (m_tape v), (m_taped v), (nI (kdT (m_tape v) n f)), (nI f), (nI (EN (m_tape v) n f)), (vlT (m_tape v) n f), w, (m_heard v), (m_isMoved v), (m_rows v), (m_rowN v), (m_sortOf v), (m_sizeOf v), (m_numbers v), (m_holdsWhat v), (m_holdsWhich v), (m_holdsMany v), (m_bodies v), (m_ran v), (m_actKind v), (m_actN v), (m_actA v), (m_isParted v))) 0 0 := by
    intro fu
    induction fu with
    | zero =>
      intro f w T M k hfu
      exact absurd hfu (Nat.not_lt_zero _)
    | succ fu ih =>
      intro f w T M k hfu hf hTh hI hk1
      refine g_aloadn C dX5_opera_29 0 rfl rfl ?_
      refine g_get C fx5 w_0 0 12 (v := .int w) rfl (by decide) w_4 rfl dX5_opera_30 ?_
      refine g_if_ne C 50 dX5_opera_33 rfl (fun c_33 => ?_) (fun c_33 => ?_)
      · refine g_aloadn C dX5_opera_50 0 rfl rfl ?_
        refine g_iconst C 0 dX5_opera_51 (by decide) ?_
        refine g_put C fx5 w_0 0 7 rfl (by decide) w_5 rfl rfl rfl (Nat.le_of_ble_eq_true rfl) dX5_opera_52 (mw q a (T, (m_held v), (m_aside v), (cp47 (m_s v) (m_before v)), (m_untried v), (m_isHeld v), (m_tape v), 0, (nI (kdT (m_tape v) n f)), (nI f), (nI (EN (m_tape v) n f)), (vlT (m_tape v) n f), w, (m_heard v), (m_isMoved v), (m_rows v), (m_rowN v), (m_sortOf v), (m_sizeOf v), (m_numbers v), (m_holdsWhat v), (m_holdsWhich v), (m_holdsMany v), (m_bodies v), (m_ran v), (m_actKind v), (m_actN v), (m_actA v), (m_isParted v))) rfl ?_
        refine g_aloadn C dX5_opera_55 0 rfl rfl ?_
        refine g_get C fx5 w_0 0 12 (v := .int w) rfl (by decide) w_4 rfl dX5_opera_56 ?_
        refine g_if_eq C 81 dX5_opera_59 rfl (fun c_59 => ?_) (fun c_59 => ?_)
        · exfalso
          exact c_33 c_59
        · refine g_aloadn C dX5_opera_62 0 rfl rfl ?_
          refine g_get C fx5 w_0 0 3 (v := .ref (a 4)) rfl (by decide) w_2 rfl dX5_opera_63 ?_
          refine g_aloadn C dX5_opera_66 0 rfl rfl ?_
          refine g_get C fx5 w_0 0 0 (v := .ref (a 1)) rfl (by decide) w_1 rfl dX5_opera_67 ?_
          refine g_callWv (w1 := (mw q a (T, (m_held v), (m_aside v), (cp47 (m_s v) (m_before v)), (m_untried v), (m_isHeld v), (m_tape v), 0, (nI (kdT (m_tape v) n f)), (nI f), (nI (EN (m_tape v) n f)), (vlT (m_tape v) n f), w, (m_heard v), (m_isMoved v), (m_rows v), (m_rowN v), (m_sortOf v), (m_sizeOf v), (m_numbers v), (m_holdsWhat v), (m_holdsWhich v), (m_holdsMany v), (m_bodies v), (m_ran v), (m_actKind v), (m_actN v), (m_actA v), (m_isParted v)))) (wr := ([0, 2, 3, 5, 6, 7, 8, 9, 10, 11, 12, 13, 14, 15, 16] : List Nat).filterMap (fun i => (mw q a (T, (m_held v), (m_aside v), (cp47 (m_s v) (m_before v)), (m_untried v), (m_isHeld v), (m_tape v), 0, (nI (kdT (m_tape v) n f)), (nI f), (nI (EN (m_tape v) n f)), (vlT (m_tape v) n f), w, (m_heard v), (m_isMoved v), (m_rows v), (m_rowN v), (m_sortOf v), (m_sizeOf v), (m_numbers v), (m_holdsWhat v), (m_holdsWhich v), (m_holdsMany v), (m_bodies v), (m_ran v), (m_actKind v), (m_actN v), (m_actA v), (m_isParted v)))[i]?)) (isC := [4, 1]) (isR := [0, 2, 3, 5, 6, 7, 8, 9, 10, 11, 12, 13, 14, 15, 16]) (pm := [0, 16, 1, 2, 15, 3, 4, 5, 6, 7, 8, 9, 10, 11, 12, 13, 14]) (w1' := (fun _ => (mw q a ((cp47 (cp47 (m_s v) (m_before v)) T), (m_held v), (m_aside v), (cp47 (m_s v) (m_before v)), (m_untried v), (m_isHeld v), (m_tape v), 0, (nI (kdT (m_tape v) n f)), (nI f), (nI (EN (m_tape v) n f)), (vlT (m_tape v) n f), w, (m_heard v), (m_isMoved v), (m_rows v), (m_rowN v), (m_sortOf v), (m_sizeOf v), (m_numbers v), (m_holdsWhat v), (m_holdsWhich v), (m_holdsMany v), (m_bodies v), (m_ran v), (m_actKind v), (m_actN v), (m_actA v), (m_isParted v))))) C (rd_S C (k_X5_copyRow l D q tt (a 4) (a 1) (cp47 (m_s v) (m_before v)) T ) gX5_opera_X5_copyRow rfl rfl rfl 2 ok_X5_copyRow (rest := []) rfl rfl (Nat.le_of_ble_eq_true rfl) dX5_opera_70 ⟨(Nat.le_of_ble_eq_true rfl), (Nat.le_of_ble_eq_true rfl)⟩ ⟨(Nat.le_of_ble_eq_true rfl), (Nat.le_of_ble_eq_true rfl)⟩) rfl rfl rfl (fun _ => rfl) rfl (fun _ h_70 => ?_)
          refine g_wsc (mw q a ((m_s v), (m_held v), (m_aside v), (cp47 (m_s v) (m_before v)), (m_untried v), (m_isHeld v), (m_tape v), 0, (nI (kdT (m_tape v) n f)), (nI f), (nI (EN (m_tape v) n f)), (vlT (m_tape v) n f), w, (m_heard v), (m_isMoved v), (m_rows v), (m_rowN v), (m_sortOf v), (m_sizeOf v), (m_numbers v), (m_holdsWhat v), (m_holdsWhich v), (m_holdsMany v), (m_bodies v), (m_ran v), (m_actKind v), (m_actN v), (m_actA v), (m_isParted v))) (by first | (rw [cp_back hTh]; done) | (rw [cp_back hTh]; rfl)) ?_
          refine g_bipush C (-100) dX5_opera_73 (by decide) ?_
          refine g_aloadn C dX5_opera_75 0 rfl rfl ?_
          refine g_get C fx5 w_0 0 9 (v := .int (nI f)) rfl (by decide) w_6 rfl dX5_opera_76 ?_
          refine g_isub C dX5_opera_79 ?_
          exact g_iret C ((m_s v), (cp47 (m_s v) (m_before v)), (nI (kdT (m_tape v) n f)), (nI f), (nI (EN (m_tape v) n f)), (vlT (m_tape v) n f), w, (m_rowN v)) hr dX5_opera_80 (Nat.le_of_ble_eq_true rfl) (Nat.le_of_ble_eq_true rfl) rfl (by obtain ⟨e1_, e2_⟩ := op_bad hI c_59; unfold R_opera; rw [if_neg e1_, if_neg e1_, if_neg e1_, e2_]; exact ⟨rfl, rfl, rfl⟩)
      · refine g_aloadn C dX5_opera_36 0 rfl rfl ?_
        refine g_get C fx5 w_0 0 8 (v := .int (nI (kdT (m_tape v) n f))) rfl (by decide) w_7 rfl dX5_opera_37 ?_
        refine g_ifN_eq C 50 ((kdT (m_tape v) n f)) dX5_opera_40 rfl (kd_b _ _ _) (fun c_40 => ?_) (fun c_40 => ?_)
        · refine g_aloadn C dX5_opera_50 0 rfl rfl ?_
          refine g_iconst C 0 dX5_opera_51 (by decide) ?_
          refine g_put C fx5 w_0 0 7 rfl (by decide) w_5 rfl rfl rfl (Nat.le_of_ble_eq_true rfl) dX5_opera_52 (mw q a (T, (m_held v), (m_aside v), (cp47 (m_s v) (m_before v)), (m_untried v), (m_isHeld v), (m_tape v), 0, (nI (kdT (m_tape v) n f)), (nI f), (nI (EN (m_tape v) n f)), (vlT (m_tape v) n f), w, (m_heard v), (m_isMoved v), (m_rows v), (m_rowN v), (m_sortOf v), (m_sizeOf v), (m_numbers v), (m_holdsWhat v), (m_holdsWhich v), (m_holdsMany v), (m_bodies v), (m_ran v), (m_actKind v), (m_actN v), (m_actA v), (m_isParted v))) rfl ?_
          refine g_aloadn C dX5_opera_55 0 rfl rfl ?_
          refine g_get C fx5 w_0 0 12 (v := .int w) rfl (by decide) w_4 rfl dX5_opera_56 ?_
          refine g_if_eq C 81 dX5_opera_59 rfl (fun c_59 => ?_) (fun c_59 => ?_)
          · refine g_aloadn C dX5_opera_81 0 rfl rfl ?_
            refine g_iconst C 0 dX5_opera_82 (by decide) ?_
            refine g_put C fx5 w_0 0 16 rfl (by decide) w_8 rfl rfl rfl (Nat.le_of_ble_eq_true rfl) dX5_opera_83 (mw q a (T, (m_held v), (m_aside v), (cp47 (m_s v) (m_before v)), (m_untried v), (m_isHeld v), (m_tape v), 0, (nI (kdT (m_tape v) n f)), (nI f), (nI (EN (m_tape v) n f)), (vlT (m_tape v) n f), w, (m_heard v), (m_isMoved v), (m_rows v), 0, (m_sortOf v), (m_sizeOf v), (m_numbers v), (m_holdsWhat v), (m_holdsWhich v), (m_holdsMany v), (m_bodies v), (m_ran v), (m_actKind v), (m_actN v), (m_actA v), (m_isParted v))) (by dsimp only [mw, List.set, m_s, m_held, m_aside, m_before, m_untried, m_isHeld, m_tape, m_taped, m_token, m_from, m_to, m_value, m_isWrong, m_heard, m_isMoved, m_rows, m_rowN, m_sortOf, m_sizeOf, m_numbers, m_holdsWhat, m_holdsWhich, m_holdsMany, m_bodies, m_ran, m_actKind, m_actN, m_actA, m_isParted]) ?_
            refine g_aloadn C dX5_opera_86 0 rfl rfl ?_
            refine g_get C fx5 w_0 0 0 (v := .ref (a 1)) rfl (by decide) w_1 rfl dX5_opera_87 ?_
            refine g_iconst C 0 dX5_opera_90 (by decide) ?_
            refine g_iald C 1 (0) (f := T) rfl rfl (by omega) (by decide) dX5_opera_91 ?_
            refine g_topci (nI M) ((op_end hI c_59 c_40).2.n) ?_
            exact g_iret C (T, (cp47 (m_s v) (m_before v)), (nI (kdT (m_tape v) n f)), (nI f), (nI (EN (m_tape v) n f)), (vlT (m_tape v) n f), w, 0) hr dX5_opera_92 (Nat.le_of_ble_eq_true rfl) (Nat.le_of_ble_eq_true rfl) rfl (by obtain ⟨e0_, e1_⟩ := op_end hI c_59 c_40; unfold R_opera; rw [e0_]; exact ⟨(if_pos rfl).symm, (if_pos rfl).symm, (if_pos rfl).symm⟩)
          · exfalso
            exact c_59 c_33
        · obtain ⟨-, -, -, -, hGT⟩ := hI.resolve_right (fun h => h.1 c_33)
          refine g_aloadn C dX5_opera_43 0 rfl rfl ?_
          refine g_callAv C (rd_V C (k_X5_itemHere l D q tt a (T, (m_held v), (m_aside v), (cp47 (m_s v) (m_before v)), (m_untried v), (m_isHeld v), (m_tape v), (m_taped v), (m_token v), (m_from v), (m_to v), (m_value v), (m_isWrong v), (m_heard v), (m_isMoved v), (m_rows v), (m_rowN v), (m_sortOf v), (m_sizeOf v), (m_numbers v), (m_holdsWhat v), (m_holdsWhich v), (m_holdsMany v), (m_bodies v), (m_ran v), (m_actKind v), (m_actN v), (m_actA v), (m_isParted v)) n f M (by first | assumption | omega) (by first | assumption | omega) (by first | assumption | omega) (by first | assumption | omega) hGT.n hGT.le) gX5_opera_X5_itemHere rfl rfl rfl 0 ok_X5_itemHere rfl 0 rfl rfl (rest := []) rfl rfl (Nat.le_of_ble_eq_true rfl) dX5_opera_44 ⟨(Nat.le_of_ble_eq_true rfl), (Nat.le_of_ble_eq_true rfl)⟩ ⟨(Nat.le_of_ble_eq_true rfl), (Nat.le_of_ble_eq_true rfl)⟩) (fun u_44 h_44 => ?_)
          refine g_wsc (mw q a (u_44, (m_held v), (m_aside v), (cp47 (m_s v) (m_before v)), (m_untried v), (m_isHeld v), (m_tape v), (m_taped v), (nI (kdT (m_tape v) n (itR (m_tape v) n T M f).2.1)), (nI (itR (m_tape v) n T M f).2.1), (nI (EN (m_tape v) n (itR (m_tape v) n T M f).2.1)), (vlT (m_tape v) n (itR (m_tape v) n T M f).2.1), ((itR (m_tape v) n T M f).1), (m_heard v), (m_isMoved v), (m_rows v), (m_rowN v), (m_sortOf v), (m_sizeOf v), (m_numbers v), (m_holdsWhat v), (m_holdsWhich v), (m_holdsMany v), (m_bodies v), (m_ran v), (m_actKind v), (m_actN v), (m_actA v), (m_isParted v))) rfl ?_
          refine g_goto C 29 dX5_opera_47 rfl ?_
          exact ih (((itR (m_tape v) n T M f).2.1)) (((itR (m_tape v) n T M f).1)) (u_44) (((itR (m_tape v) n T M f).2.2.2)) ((k - 1)) (by omega) (it_G hf).2.1 (fun k hk => (h_44.2 k hk).trans (hTh k hk)) (op_back hI c_33 c_40 hf hn2 h_44.1) (fun h0 => ((op_back hI c_33 c_40 hf hn2 h_44.1).resolve_right (fun h => h.1 h0)).2.1)
  exact J_29 _ ((FB (m_tape v) n 0)) (0) ((bgS (m_s v))) (0) (201) (Nat.lt_succ_self _) (fb_le (Nat.zero_le n)).2 (fun k hk => bg_hi hk) (op_0 _ _ _) (fun _ => by omega)

