set_option maxRecDepth 100000 in
set_option maxHeartbeats 4000000 in
theorem k_X5_minute (l : Launch) (D : va_G) (q : Nat → ClassId) (tt : Nat → Nat) (a : Nat → Nat) (v : MC) (N : Nat) (hG : Gd (m_s v) N) : MI l D q tt yX5_minute wsX5_minute ({ frames := 5, cells := 0, slots := 0, locals := 112 } : Room) [.ref (a 0)] (mw q a v) (fun (r : Int32) (u : (Nat → Int32) × (Nat → Int32)) => r = (nI (pop (clN (mnS (m_s v) N) N)))) (fun u => (mw q a ((mnS (m_s v) N), (m_held v), (m_aside v), (m_before v), (m_untried v), (m_isHeld v), (m_tape v), (m_taped v), (m_token v), (m_from v), (m_to v), (m_value v), (m_isWrong v), u.1, u.2, (m_rows v), (m_rowN v), (m_sortOf v), (m_sizeOf v), (m_numbers v), (m_holdsWhat v), (m_holdsWhich v), (m_holdsMany v), (m_bodies v), (m_ran v), (m_actKind v), (m_actN v), (m_actA v), (m_isParted v)))) 0 0 := by
  refine MI.of RX5 [(0, .ref (a 0))] (by decide) rfl rfl (Nat.le_of_ble_eq_true rfl) rfl ?_
  intro p e s m args below meth c A C hr hnm
  have w_0 : ∀ w ∈ u_ws RX5 TX5 29, w ∈ wsX5_minute := by decide +kernel
  have w_1 : Cond.fieldLink RX5 7 (TX5 0).1 (TX5 0).2.1 (TX5 0).2.2.1 ∈ wsX5_minute := by decide +kernel
  have h8 := hG.le
  refine g_aloadn C dX5_minute_0 0 rfl rfl ?_
  refine g_get C fx5 w_0 0 0 (v := .ref (a 1)) rfl (by decide) w_1 rfl dX5_minute_1 ?_
  refine g_iconst C 0 dX5_minute_4 (by decide) ?_
  refine g_iald C 1 (0) (f := (m_s v)) rfl rfl (by omega) (by decide) dX5_minute_5 ?_
  refine g_topci (nI N) (hG.n) ?_
  refine g_ifN_le C 68 (N) dX5_minute_6 rfl (by omega) (fun c_6 => ?_) (fun c_6 => ?_)
  · refine g_wsc (mw q a ((mnS1 (m_s v) N), (m_held v), (m_aside v), (m_before v), (m_untried v), (m_isHeld v), (m_tape v), (m_taped v), (m_token v), (m_from v), (m_to v), (m_value v), (m_isWrong v), (m_heard v), (m_isMoved v), (m_rows v), (m_rowN v), (m_sortOf v), (m_sizeOf v), (m_numbers v), (m_holdsWhat v), (m_holdsWhich v), (m_holdsMany v), (m_bodies v), (m_ran v), (m_actKind v), (m_actN v), (m_actA v), (m_isParted v))) (by unfold mnS1; rw [if_pos (show N = 0 by omega)]) ?_
    refine g_aloadn C dX5_minute_68 0 rfl rfl ?_
    refine g_callAv C (rd_V C (k_X5_goesOn l D q tt a ((mnS1 (m_s v) N), (m_held v), (m_aside v), (m_before v), (m_untried v), (m_isHeld v), (m_tape v), (m_taped v), (m_token v), (m_from v), (m_to v), (m_value v), (m_isWrong v), (m_heard v), (m_isMoved v), (m_rows v), (m_rowN v), (m_sortOf v), (m_sizeOf v), (m_numbers v), (m_holdsWhat v), (m_holdsWhich v), (m_holdsMany v), (m_bodies v), (m_ran v), (m_actKind v), (m_actN v), (m_actA v), (m_isParted v)) N hG.mn1) gX5_minute_X5_goesOn rfl rfl rfl 0 ok_X5_goesOn rfl 0 rfl rfl (rest := []) rfl rfl (Nat.le_of_ble_eq_true rfl) dX5_minute_69 ⟨(Nat.le_of_ble_eq_true rfl), (Nat.le_of_ble_eq_true rfl)⟩ ⟨(Nat.le_of_ble_eq_true rfl), (Nat.le_of_ble_eq_true rfl)⟩) (fun u_69 h_69 => ?_)
    refine g_wsc (mw q a ((goS (mnS1 (m_s v) N) N), (m_held v), (m_aside v), (m_before v), (m_untried v), (m_isHeld v), (m_tape v), (m_taped v), (m_token v), (m_from v), (m_to v), (m_value v), (m_isWrong v), u_69.1, u_69.2, (m_rows v), (m_rowN v), (m_sortOf v), (m_sizeOf v), (m_numbers v), (m_holdsWhat v), (m_holdsWhich v), (m_holdsMany v), (m_bodies v), (m_ran v), (m_actKind v), (m_actN v), (m_actA v), (m_isParted v))) rfl ?_
    refine g_wsc (mw q a ((mnS (m_s v) N), (m_held v), (m_aside v), (m_before v), (m_untried v), (m_isHeld v), (m_tape v), (m_taped v), (m_token v), (m_from v), (m_to v), (m_value v), (m_isWrong v), u_69.1, u_69.2, (m_rows v), (m_rowN v), (m_sortOf v), (m_sizeOf v), (m_numbers v), (m_holdsWhat v), (m_holdsWhich v), (m_holdsMany v), (m_bodies v), (m_ran v), (m_actKind v), (m_actN v), (m_actA v), (m_isParted v))) (rfl) ?_
    refine g_aloadn C dX5_minute_72 0 rfl rfl ?_
    refine g_callAi C (rd_V C (k_X5_clappers l D q tt a ((mnS (m_s v) N), (m_held v), (m_aside v), (m_before v), (m_untried v), (m_isHeld v), (m_tape v), (m_taped v), (m_token v), (m_from v), (m_to v), (m_value v), (m_isWrong v), u_69.1, u_69.2, (m_rows v), (m_rowN v), (m_sortOf v), (m_sizeOf v), (m_numbers v), (m_holdsWhat v), (m_holdsWhich v), (m_holdsMany v), (m_bodies v), (m_ran v), (m_actKind v), (m_actN v), (m_actA v), (m_isParted v)) N hG.mn) gX5_minute_X5_clappers rfl rfl rfl 0 ok_X5_clappers rfl 0 rfl rfl (rest := []) rfl rfl (Nat.le_of_ble_eq_true rfl) dX5_minute_73 ⟨(Nat.le_of_ble_eq_true rfl), (Nat.le_of_ble_eq_true rfl)⟩ ⟨(Nat.le_of_ble_eq_true rfl), (Nat.le_of_ble_eq_true rfl)⟩) (fun r_73 _ h_73 => ?_)
    obtain rfl := h_73
    refine g_topci (clS (mnS (m_s v) N) N) rfl ?_
    refine g_call0i C (rd_S C (k_X5_size l D q tt _ (clN_256 h8)) gX5_minute_X5_size rfl rfl rfl 1 ok_X5_size (rest := []) rfl rfl (Nat.le_of_ble_eq_true rfl) dX5_minute_76 ⟨(Nat.le_of_ble_eq_true rfl), (Nat.le_of_ble_eq_true rfl)⟩ ⟨(Nat.le_of_ble_eq_true rfl), (Nat.le_of_ble_eq_true rfl)⟩) (fun _ => rfl) (fun r_76 _ h_76 => ?_)
    obtain rfl := h_76
    exact g_iret C (u_69.1, u_69.2) hr dX5_minute_79 (Nat.le_of_ble_eq_true rfl) (Nat.le_of_ble_eq_true rfl) rfl (rfl)
  · have h0 : 0 < N := by omega
    obtain ⟨d, hd, ed⟩ := rm_ix (zsS ((m_s v) 2)) (N := N) h0 h8
    refine g_bipush C 7 dX5_minute_9 (by decide) ?_
    refine g_iconst C 5 dX5_minute_11 (by decide) ?_
    refine g_aloadn C dX5_minute_12 0 rfl rfl ?_
    refine g_callAi C (rd_V C (k_X5_drawn l D q tt a v ) gX5_minute_X5_drawn rfl rfl rfl 0 ok_X5_drawn rfl 0 rfl rfl (rest := [.int 5, .int 7]) rfl rfl (Nat.le_of_ble_eq_true rfl) dX5_minute_13 ⟨(Nat.le_of_ble_eq_true rfl), (Nat.le_of_ble_eq_true rfl)⟩ ⟨(Nat.le_of_ble_eq_true rfl), (Nat.le_of_ble_eq_true rfl)⟩) (fun r_13 _ h_13 => ?_)
    obtain rfl := h_13
    refine g_aloadn C dX5_minute_16 0 rfl rfl ?_
    refine g_get C fx5 w_0 0 0 (v := .ref (a 1)) rfl (by decide) w_1 rfl dX5_minute_17 ?_
    refine g_iconst C 0 dX5_minute_20 (by decide) ?_
    refine g_iald C 1 (0) (f := (upd (m_s v) 2 (zsS ((m_s v) 2)))) rfl rfl (by omega) (by decide) dX5_minute_21 ?_
    refine g_topci (nI N) ((pk_un (by omega)).trans hG.n) ?_
    refine g_irem C dX5_minute_22 (nI_ne0 h0 (by omega)) ?_
    refine g_topci (nI d) (ed) ?_
    refine g_imul C dX5_minute_23 ?_
    refine g_iadd C dX5_minute_24 ?_
    refine g_iconst C 4 dX5_minute_25 (by decide) ?_
    refine g_iadd C dX5_minute_26 ?_
    refine g_topci (nI ((7 + (5 * d)) + 4)) ((ix_add (ix_add rfl (ix_mul rfl rfl)) rfl)) ?_
    refine g_istoren C [(1, .int (nI ((7 + (5 * d)) + 4))), (0, .ref (a 0))] dX5_minute_27 rfl (by decide) rfl ?_
    refine g_aloadn C dX5_minute_28 1 rfl rfl ?_
    refine g_get C fx5 w_0 0 0 (v := .ref (a 1)) rfl (by decide) w_1 rfl dX5_minute_29 ?_
    refine g_iloadn C dX5_minute_32 0 rfl rfl ?_
    refine g_aloadn C dX5_minute_33 1 rfl rfl ?_
    refine g_callAi C (rd_V C (k_X5_drawn l D q tt a ((upd (m_s v) 2 (zsS ((m_s v) 2))), (m_held v), (m_aside v), (m_before v), (m_untried v), (m_isHeld v), (m_tape v), (m_taped v), (m_token v), (m_from v), (m_to v), (m_value v), (m_isWrong v), (m_heard v), (m_isMoved v), (m_rows v), (m_rowN v), (m_sortOf v), (m_sizeOf v), (m_numbers v), (m_holdsWhat v), (m_holdsWhich v), (m_holdsMany v), (m_bodies v), (m_ran v), (m_actKind v), (m_actN v), (m_actA v), (m_isParted v)) ) gX5_minute_X5_drawn rfl rfl rfl 0 ok_X5_drawn rfl 0 rfl rfl (rest := [.int (nI ((7 + (5 * d)) + 4)), .ref (a 1)]) rfl rfl (Nat.le_of_ble_eq_true rfl) dX5_minute_34 ⟨(Nat.le_of_ble_eq_true rfl), (Nat.le_of_ble_eq_true rfl)⟩ ⟨(Nat.le_of_ble_eq_true rfl), (Nat.le_of_ble_eq_true rfl)⟩) (fun r_34 _ h_34 => ?_)
    obtain rfl := h_34
    refine g_wsc (mw q a ((upd (upd (m_s v) 2 (zsS ((m_s v) 2))) 2 (zsS ((upd (m_s v) 2 (zsS ((m_s v) 2))) 2))), (m_held v), (m_aside v), (m_before v), (m_untried v), (m_isHeld v), (m_tape v), (m_taped v), (m_token v), (m_from v), (m_to v), (m_value v), (m_isWrong v), (m_heard v), (m_isMoved v), (m_rows v), (m_rowN v), (m_sortOf v), (m_sizeOf v), (m_numbers v), (m_holdsWhat v), (m_holdsWhich v), (m_holdsMany v), (m_bodies v), (m_ran v), (m_actKind v), (m_actN v), (m_actA v), (m_isParted v))) rfl ?_
    refine g_topci (zrS (zsS ((upd (m_s v) 2 (zsS ((m_s v) 2))) 2))) rfl ?_
    refine g_wsc (mw q a ((upd (upd (m_s v) 2 (zsS ((m_s v) 2))) 2 (zsS (zsS ((m_s v) 2)))), (m_held v), (m_aside v), (m_before v), (m_untried v), (m_isHeld v), (m_tape v), (m_taped v), (m_token v), (m_from v), (m_to v), (m_value v), (m_isWrong v), (m_heard v), (m_isMoved v), (m_rows v), (m_rowN v), (m_sortOf v), (m_sizeOf v), (m_numbers v), (m_holdsWhat v), (m_holdsWhich v), (m_holdsMany v), (m_bodies v), (m_ran v), (m_actKind v), (m_actN v), (m_actA v), (m_isParted v))) (by rw [pk_us]) ?_
    refine g_topci (zrS (zsS (zsS ((m_s v) 2)))) (by rw [pk_us]) ?_
    refine g_bipush C 100 dX5_minute_37 (by decide) ?_
    refine g_irem C dX5_minute_39 (by decide) ?_
    refine g_aloadn C dX5_minute_40 1 rfl rfl ?_
    refine g_get C fx5 w_0 0 0 (v := .ref (a 1)) rfl (by decide) w_1 rfl dX5_minute_41 ?_
    refine g_bipush C 6 dX5_minute_44 (by decide) ?_
    refine g_iald C 1 (6) (f := (upd (upd (m_s v) 2 (zsS ((m_s v) 2))) 2 (zsS (zsS ((m_s v) 2))))) rfl rfl (by omega) (by decide) dX5_minute_46 ?_
    refine g_topci ((m_s v) 6) ((pk_un (by omega)).trans (pk_un (by omega))) ?_
    refine g_icmp_ge C 61 dX5_minute_47 rfl (fun c_47 => ?_) (fun c_47 => ?_)
    · refine g_aloadn C dX5_minute_61 1 rfl rfl ?_
      refine g_get C fx5 w_0 0 0 (v := .ref (a 1)) rfl (by decide) w_1 rfl dX5_minute_62 ?_
      refine g_iloadn C dX5_minute_65 0 rfl rfl ?_
      refine g_iald C 1 (((7 + (5 * d)) + 4)) (f := (upd (upd (m_s v) 2 (zsS ((m_s v) 2))) 2 (zsS (zsS ((m_s v) 2))))) rfl rfl (by omega) (by decide) dX5_minute_66 ?_
      refine g_topci (sC (m_s v) d) ((pk_un (by omega)).trans (pk_un (by omega))) ?_
      refine g_iast C 1 (((7 + (5 * d)) + 4)) (f := (upd (upd (m_s v) 2 (zsS ((m_s v) 2))) 2 (zsS (zsS ((m_s v) 2))))) rfl rfl (by omega) (by decide) dX5_minute_67 (mw q a ((upd (upd (upd (m_s v) 2 (zsS ((m_s v) 2))) 2 (zsS (zsS ((m_s v) 2)))) ((7 + (5 * d)) + 4) (sC (m_s v) d)), (m_held v), (m_aside v), (m_before v), (m_untried v), (m_isHeld v), (m_tape v), (m_taped v), (m_token v), (m_from v), (m_to v), (m_value v), (m_isWrong v), (m_heard v), (m_isMoved v), (m_rows v), (m_rowN v), (m_sortOf v), (m_sizeOf v), (m_numbers v), (m_holdsWhat v), (m_holdsWhich v), (m_holdsMany v), (m_bodies v), (m_ran v), (m_actKind v), (m_actN v), (m_actA v), (m_isParted v))) (by unfold mw; rfl) ?_
      refine g_wsc (mw q a ((mnS1 (m_s v) N), (m_held v), (m_aside v), (m_before v), (m_untried v), (m_isHeld v), (m_tape v), (m_taped v), (m_token v), (m_from v), (m_to v), (m_value v), (m_isWrong v), (m_heard v), (m_isMoved v), (m_rows v), (m_rowN v), (m_sortOf v), (m_sizeOf v), (m_numbers v), (m_holdsWhat v), (m_holdsWhich v), (m_holdsMany v), (m_bodies v), (m_ran v), (m_actKind v), (m_actN v), (m_actA v), (m_isParted v))) (by rw [mnS1_pos h0 (by omega) ed, if_neg (Int32.not_lt.mpr c_47)]) ?_
      refine g_aloadn C dX5_minute_68 1 rfl rfl ?_
      refine g_callAv C (rd_V C (k_X5_goesOn l D q tt a ((mnS1 (m_s v) N), (m_held v), (m_aside v), (m_before v), (m_untried v), (m_isHeld v), (m_tape v), (m_taped v), (m_token v), (m_from v), (m_to v), (m_value v), (m_isWrong v), (m_heard v), (m_isMoved v), (m_rows v), (m_rowN v), (m_sortOf v), (m_sizeOf v), (m_numbers v), (m_holdsWhat v), (m_holdsWhich v), (m_holdsMany v), (m_bodies v), (m_ran v), (m_actKind v), (m_actN v), (m_actA v), (m_isParted v)) N hG.mn1) gX5_minute_X5_goesOn rfl rfl rfl 0 ok_X5_goesOn rfl 0 rfl rfl (rest := []) rfl rfl (Nat.le_of_ble_eq_true rfl) dX5_minute_69 ⟨(Nat.le_of_ble_eq_true rfl), (Nat.le_of_ble_eq_true rfl)⟩ ⟨(Nat.le_of_ble_eq_true rfl), (Nat.le_of_ble_eq_true rfl)⟩) (fun u_69 h_69 => ?_)
      refine g_wsc (mw q a ((goS (mnS1 (m_s v) N) N), (m_held v), (m_aside v), (m_before v), (m_untried v), (m_isHeld v), (m_tape v), (m_taped v), (m_token v), (m_from v), (m_to v), (m_value v), (m_isWrong v), u_69.1, u_69.2, (m_rows v), (m_rowN v), (m_sortOf v), (m_sizeOf v), (m_numbers v), (m_holdsWhat v), (m_holdsWhich v), (m_holdsMany v), (m_bodies v), (m_ran v), (m_actKind v), (m_actN v), (m_actA v), (m_isParted v))) rfl ?_
      refine g_wsc (mw q a ((mnS (m_s v) N), (m_held v), (m_aside v), (m_before v), (m_untried v), (m_isHeld v), (m_tape v), (m_taped v), (m_token v), (m_from v), (m_to v), (m_value v), (m_isWrong v), u_69.1, u_69.2, (m_rows v), (m_rowN v), (m_sortOf v), (m_sizeOf v), (m_numbers v), (m_holdsWhat v), (m_holdsWhich v), (m_holdsMany v), (m_bodies v), (m_ran v), (m_actKind v), (m_actN v), (m_actA v), (m_isParted v))) (rfl) ?_
      refine g_aloadn C dX5_minute_72 1 rfl rfl ?_
      refine g_callAi C (rd_V C (k_X5_clappers l D q tt a ((mnS (m_s v) N), (m_held v), (m_aside v), (m_before v), (m_untried v), (m_isHeld v), (m_tape v), (m_taped v), (m_token v), (m_from v), (m_to v), (m_value v), (m_isWrong v), u_69.1, u_69.2, (m_rows v), (m_rowN v), (m_sortOf v), (m_sizeOf v), (m_numbers v), (m_holdsWhat v), (m_holdsWhich v), (m_holdsMany v), (m_bodies v), (m_ran v), (m_actKind v), (m_actN v), (m_actA v), (m_isParted v)) N hG.mn) gX5_minute_X5_clappers rfl rfl rfl 0 ok_X5_clappers rfl 0 rfl rfl (rest := []) rfl rfl (Nat.le_of_ble_eq_true rfl) dX5_minute_73 ⟨(Nat.le_of_ble_eq_true rfl), (Nat.le_of_ble_eq_true rfl)⟩ ⟨(Nat.le_of_ble_eq_true rfl), (Nat.le_of_ble_eq_true rfl)⟩) (fun r_73 _ h_73 => ?_)
      obtain rfl := h_73
      refine g_topci (clS (mnS (m_s v) N) N) rfl ?_
      refine g_call0i C (rd_S C (k_X5_size l D q tt _ (clN_256 h8)) gX5_minute_X5_size rfl rfl rfl 1 ok_X5_size (rest := []) rfl rfl (Nat.le_of_ble_eq_true rfl) dX5_minute_76 ⟨(Nat.le_of_ble_eq_true rfl), (Nat.le_of_ble_eq_true rfl)⟩ ⟨(Nat.le_of_ble_eq_true rfl), (Nat.le_of_ble_eq_true rfl)⟩) (fun _ => rfl) (fun r_76 _ h_76 => ?_)
      obtain rfl := h_76
      exact g_iret C (u_69.1, u_69.2) hr dX5_minute_79 (Nat.le_of_ble_eq_true rfl) (Nat.le_of_ble_eq_true rfl) rfl (rfl)
    · refine g_iconst C 1 dX5_minute_50 (by decide) ?_
      refine g_aloadn C dX5_minute_51 1 rfl rfl ?_
      refine g_get C fx5 w_0 0 0 (v := .ref (a 1)) rfl (by decide) w_1 rfl dX5_minute_52 ?_
      refine g_iloadn C dX5_minute_55 0 rfl rfl ?_
      refine g_iald C 1 (((7 + (5 * d)) + 4)) (f := (upd (upd (m_s v) 2 (zsS ((m_s v) 2))) 2 (zsS (zsS ((m_s v) 2))))) rfl rfl (by omega) (by decide) dX5_minute_56 ?_
      refine g_topci (sC (m_s v) d) ((pk_un (by omega)).trans (pk_un (by omega))) ?_
      refine g_isub C dX5_minute_57 ?_
      refine g_goto C 67 dX5_minute_58 rfl ?_
      refine g_iast C 1 (((7 + (5 * d)) + 4)) (f := (upd (upd (m_s v) 2 (zsS ((m_s v) 2))) 2 (zsS (zsS ((m_s v) 2))))) rfl rfl (by omega) (by decide) dX5_minute_67 (mw q a ((upd (upd (upd (m_s v) 2 (zsS ((m_s v) 2))) 2 (zsS (zsS ((m_s v) 2)))) ((7 + (5 * d)) + 4) (1 - (sC (m_s v) d))), (m_held v), (m_aside v), (m_before v), (m_untried v), (m_isHeld v), (m_tape v), (m_taped v), (m_token v), (m_from v), (m_to v), (m_value v), (m_isWrong v), (m_heard v), (m_isMoved v), (m_rows v), (m_rowN v), (m_sortOf v), (m_sizeOf v), (m_numbers v), (m_holdsWhat v), (m_holdsWhich v), (m_holdsMany v), (m_bodies v), (m_ran v), (m_actKind v), (m_actN v), (m_actA v), (m_isParted v))) (by unfold mw; rfl) ?_
      refine g_wsc (mw q a ((mnS1 (m_s v) N), (m_held v), (m_aside v), (m_before v), (m_untried v), (m_isHeld v), (m_tape v), (m_taped v), (m_token v), (m_from v), (m_to v), (m_value v), (m_isWrong v), (m_heard v), (m_isMoved v), (m_rows v), (m_rowN v), (m_sortOf v), (m_sizeOf v), (m_numbers v), (m_holdsWhat v), (m_holdsWhich v), (m_holdsMany v), (m_bodies v), (m_ran v), (m_actKind v), (m_actN v), (m_actA v), (m_isParted v))) (by rw [mnS1_pos h0 (by omega) ed, if_pos (Int32.not_le.mp c_47)]) ?_
      refine g_aloadn C dX5_minute_68 1 rfl rfl ?_
      refine g_callAv C (rd_V C (k_X5_goesOn l D q tt a ((mnS1 (m_s v) N), (m_held v), (m_aside v), (m_before v), (m_untried v), (m_isHeld v), (m_tape v), (m_taped v), (m_token v), (m_from v), (m_to v), (m_value v), (m_isWrong v), (m_heard v), (m_isMoved v), (m_rows v), (m_rowN v), (m_sortOf v), (m_sizeOf v), (m_numbers v), (m_holdsWhat v), (m_holdsWhich v), (m_holdsMany v), (m_bodies v), (m_ran v), (m_actKind v), (m_actN v), (m_actA v), (m_isParted v)) N hG.mn1) gX5_minute_X5_goesOn rfl rfl rfl 0 ok_X5_goesOn rfl 0 rfl rfl (rest := []) rfl rfl (Nat.le_of_ble_eq_true rfl) dX5_minute_69 ⟨(Nat.le_of_ble_eq_true rfl), (Nat.le_of_ble_eq_true rfl)⟩ ⟨(Nat.le_of_ble_eq_true rfl), (Nat.le_of_ble_eq_true rfl)⟩) (fun u_69 h_69 => ?_)
      refine g_wsc (mw q a ((goS (mnS1 (m_s v) N) N), (m_held v), (m_aside v), (m_before v), (m_untried v), (m_isHeld v), (m_tape v), (m_taped v), (m_token v), (m_from v), (m_to v), (m_value v), (m_isWrong v), u_69.1, u_69.2, (m_rows v), (m_rowN v), (m_sortOf v), (m_sizeOf v), (m_numbers v), (m_holdsWhat v), (m_holdsWhich v), (m_holdsMany v), (m_bodies v), (m_ran v), (m_actKind v), (m_actN v), (m_actA v), (m_isParted v))) rfl ?_
      refine g_wsc (mw q a ((mnS (m_s v) N), (m_held v), (m_aside v), (m_before v), (m_untried v), (m_isHeld v), (m_tape v), (m_taped v), (m_token v), (m_from v), (m_to v), (m_value v), (m_isWrong v), u_69.1, u_69.2, (m_rows v), (m_rowN v), (m_sortOf v), (m_sizeOf v), (m_numbers v), (m_holdsWhat v), (m_holdsWhich v), (m_holdsMany v), (m_bodies v), (m_ran v), (m_actKind v), (m_actN v), (m_actA v), (m_isParted v))) (rfl) ?_
      refine g_aloadn C dX5_minute_72 1 rfl rfl ?_
      refine g_callAi C (rd_V C (k_X5_clappers l D q tt a ((mnS (m_s v) N), (m_held v), (m_aside v), (m_before v), (m_untried v), (m_isHeld v), (m_tape v), (m_taped v), (m_token v), (m_from v), (m_to v), (m_value v), (m_isWrong v), u_69.1, u_69.2, (m_rows v), (m_rowN v), (m_sortOf v), (m_sizeOf v), (m_numbers v), (m_holdsWhat v), (m_holdsWhich v), (m_holdsMany v), (m_bodies v), (m_ran v), (m_actKind v), (m_actN v), (m_actA v), (m_isParted v)) N hG.mn) gX5_minute_X5_clappers rfl rfl rfl 0 ok_X5_clappers rfl 0 rfl rfl (rest := []) rfl rfl (Nat.le_of_ble_eq_true rfl) dX5_minute_73 ⟨(Nat.le_of_ble_eq_true rfl), (Nat.le_of_ble_eq_true rfl)⟩ ⟨(Nat.le_of_ble_eq_true rfl), (Nat.le_of_ble_eq_true rfl)⟩) (fun r_73 _ h_73 => ?_)
      obtain rfl := h_73
      refine g_topci (clS (mnS (m_s v) N) N) rfl ?_
      refine g_call0i C (rd_S C (k_X5_size l D q tt _ (clN_256 h8)) gX5_minute_X5_size rfl rfl rfl 1 ok_X5_size (rest := []) rfl rfl (Nat.le_of_ble_eq_true rfl) dX5_minute_76 ⟨(Nat.le_of_ble_eq_true rfl), (Nat.le_of_ble_eq_true rfl)⟩ ⟨(Nat.le_of_ble_eq_true rfl), (Nat.le_of_ble_eq_true rfl)⟩) (fun _ => rfl) (fun r_76 _ h_76 => ?_)
      obtain rfl := h_76
      exact g_iret C (u_69.1, u_69.2) hr dX5_minute_79 (Nat.le_of_ble_eq_true rfl) (Nat.le_of_ble_eq_true rfl) rfl (rfl)

