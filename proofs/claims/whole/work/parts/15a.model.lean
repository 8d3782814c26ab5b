set_option maxRecDepth 100000 in
set_option maxHeartbeats 4000000 in
theorem k_X5_stir (l : Launch) (D : va_G) (q : Nat → ClassId) (tt : Nat → Nat) (a : Nat → Nat) (v : MC) (N : Nat) (x : Int32) (hG : Gd (m_s v) N) : MI l D q tt yX5_stir wsX5_stir ({ frames := 6, cells := 0, slots := 0, locals := 133 } : Room) [.ref (a 0), .int x] (mw q a v) (fun (r : Int32) (u : (Nat → Int32) × (Nat → Int32) × (Nat → Int32)) => r = R_stir (m_s v) N x) (fun u => (mw q a ((m_s v), (m_held v), u.1, (m_before v), (m_untried v), (m_isHeld v), (m_tape v), (m_taped v), (m_token v), (m_from v), (m_to v), (m_value v), (m_isWrong v), u.2.1, u.2.2, (m_rows v), (m_rowN v), (m_sortOf v), (m_sizeOf v), (m_numbers v), (m_holdsWhat v), (m_holdsWhich v), (m_holdsMany v), (m_bodies v), (m_ran v), (m_actKind v), (m_actN v), (m_actA v), (m_isParted v)))) 0 0 := by
  refine MI.of RX5 [(0, .ref (a 0)), (1, .int x)] (by decide) rfl rfl (Nat.le_of_ble_eq_true rfl) rfl ?_
  intro p e s m args below meth c A C hr hnm
  have w_0 : Cond.constantLong RX5 213 (30) ∈ wsX5_stir := by decide +kernel
  have w_1 : ∀ w ∈ u_ws RX5 TX5 29, w ∈ wsX5_stir := by decide +kernel
  have w_2 : Cond.fieldLink RX5 7 (TX5 0).1 (TX5 0).2.1 (TX5 0).2.2.1 ∈ wsX5_stir := by decide +kernel
  have w_3 : Cond.fieldLink RX5 16 (TX5 2).1 (TX5 2).2.1 (TX5 2).2.2.1 ∈ wsX5_stir := by decide +kernel
  have h8 := hG.le
  refine g_iloadn C dX5_stir_0 1 rfl rfl ?_
  refine g_i2l C dX5_stir_1 ?_
  refine g_lconst C 1 dX5_stir_2 (by decide) ?_
  refine g_ldc2 C (30) dX5_stir_3 w_0 ?_
  refine g_call0i C (rd_S C (k_isIn32 l D q tt (x) 1 (30) 1 (30) (by first | rfl | decide) (by first | rfl | decide)) gX5_stir_X5_isIn rfl rfl rfl 3 ok_X5_isIn (rest := []) rfl rfl (Nat.le_of_ble_eq_true rfl) dX5_stir_6 ⟨(Nat.le_of_ble_eq_true rfl), (Nat.le_of_ble_eq_true rfl)⟩ ⟨(Nat.le_of_ble_eq_true rfl), (Nat.le_of_ble_eq_true rfl)⟩) (fun _ => rfl) (fun r_6 _ h_6 => ?_)
  obtain rfl := h_6
  refine g_ifneE C 14 dX5_stir_9 rfl rfl (fun c_9 => ?_) (fun c_9 => ?_)
  · obtain ⟨j, hj, ej, ec⟩ := ix_le (n := 30) (by omega) ⟨Int32.le_trans (by decide) c_9.1, c_9.2⟩
    refine g_aloadn C dX5_stir_14 0 rfl rfl ?_
    refine g_get C fx5 w_1 0 0 (v := .ref (a 1)) rfl (by decide) w_2 rfl dX5_stir_15 ?_
    refine g_aloadn C dX5_stir_18 0 rfl rfl ?_
    refine g_get C fx5 w_1 0 2 (v := .ref (a 3)) rfl (by decide) w_3 rfl dX5_stir_19 ?_
    refine g_callWv (w1 := (mw q a v)) (wr := ([0, 2, 4, 5, 6, 7, 8, 9, 10, 11, 12, 13, 14, 15, 16] : List Nat).filterMap (fun i => (mw q a v)[i]?)) (isC := [1, 3]) (isR := [0, 2, 4, 5, 6, 7, 8, 9, 10, 11, 12, 13, 14, 15, 16]) (pm := [0, 15, 1, 16, 2, 3, 4, 5, 6, 7, 8, 9, 10, 11, 12, 13, 14]) (w1' := (fun _ => (mw q a ((m_s v), (m_held v), (cp47 (m_s v) (m_aside v)), (m_before v), (m_untried v), (m_isHeld v), (m_tape v), (m_taped v), (m_token v), (m_from v), (m_to v), (m_value v), (m_isWrong v), (m_heard v), (m_isMoved v), (m_rows v), (m_rowN v), (m_sortOf v), (m_sizeOf v), (m_numbers v), (m_holdsWhat v), (m_holdsWhich v), (m_holdsMany v), (m_bodies v), (m_ran v), (m_actKind v), (m_actN v), (m_actA v), (m_isParted v))))) C (rd_S C (k_X5_copyRow l D q tt (a 1) (a 3) (m_s v) (m_aside v) ) gX5_stir_X5_copyRow rfl rfl rfl 2 ok_X5_copyRow (rest := []) rfl rfl (Nat.le_of_ble_eq_true rfl) dX5_stir_22 ⟨(Nat.le_of_ble_eq_true rfl), (Nat.le_of_ble_eq_true rfl)⟩ ⟨(Nat.le_of_ble_eq_true rfl), (Nat.le_of_ble_eq_true rfl)⟩) rfl rfl rfl (fun _ => rfl) rfl (fun _ h_22 => ?_)
    refine g_aloadn C dX5_stir_25 0 rfl rfl ?_
    refine g_callAv C (rd_V C (k_X5_goesOn l D q tt a ((m_s v), (m_held v), (cp47 (m_s v) (m_aside v)), (m_before v), (m_untried v), (m_isHeld v), (m_tape v), (m_taped v), (m_token v), (m_from v), (m_to v), (m_value v), (m_isWrong v), (m_heard v), (m_isMoved v), (m_rows v), (m_rowN v), (m_sortOf v), (m_sizeOf v), (m_numbers v), (m_holdsWhat v), (m_holdsWhich v), (m_holdsMany v), (m_bodies v), (m_ran v), (m_actKind v), (m_actN v), (m_actA v), (m_isParted v)) N (by first | assumption | omega)) gX5_stir_X5_goesOn rfl rfl rfl 0 ok_X5_goesOn rfl 0 rfl rfl (rest := []) rfl rfl (Nat.le_of_ble_eq_true rfl) dX5_stir_26 ⟨(Nat.le_of_ble_eq_true rfl), (Nat.le_of_ble_eq_true rfl)⟩ ⟨(Nat.le_of_ble_eq_true rfl), (Nat.le_of_ble_eq_true rfl)⟩) (fun u_26 h_26 => ?_)
    refine g_wsc (mw q a ((goS (m_s v) N), (m_held v), (cp47 (m_s v) (m_aside v)), (m_before v), (m_untried v), (m_isHeld v), (m_tape v), (m_taped v), (m_token v), (m_from v), (m_to v), (m_value v), (m_isWrong v), u_26.1, u_26.2, (m_rows v), (m_rowN v), (m_sortOf v), (m_sizeOf v), (m_numbers v), (m_holdsWhat v), (m_holdsWhich v), (m_holdsMany v), (m_bodies v), (m_ran v), (m_actKind v), (m_actN v), (m_actA v), (m_isParted v))) rfl ?_
    refine g_aloadn C dX5_stir_29 0 rfl rfl ?_
    refine g_callAi C (rd_V C (k_X5_clappers l D q tt a ((goS (m_s v) N), (m_held v), (cp47 (m_s v) (m_aside v)), (m_before v), (m_untried v), (m_isHeld v), (m_tape v), (m_taped v), (m_token v), (m_from v), (m_to v), (m_value v), (m_isWrong v), u_26.1, u_26.2, (m_rows v), (m_rowN v), (m_sortOf v), (m_sizeOf v), (m_numbers v), (m_holdsWhat v), (m_holdsWhich v), (m_holdsMany v), (m_bodies v), (m_ran v), (m_actKind v), (m_actN v), (m_actA v), (m_isParted v)) N hG.go) gX5_stir_X5_clappers rfl rfl rfl 0 ok_X5_clappers rfl 0 rfl rfl (rest := []) rfl rfl (Nat.le_of_ble_eq_true rfl) dX5_stir_30 ⟨(Nat.le_of_ble_eq_true rfl), (Nat.le_of_ble_eq_true rfl)⟩ ⟨(Nat.le_of_ble_eq_true rfl), (Nat.le_of_ble_eq_true rfl)⟩) (fun r_30 _ h_30 => ?_)
    obtain rfl := h_30
    refine g_topci (clS (goS (m_s v) N) N) rfl ?_
    refine g_call0i C (rd_S C (k_X5_size l D q tt (clN (goS (m_s v) N) N) (clN_256 h8)) gX5_stir_X5_size rfl rfl rfl 1 ok_X5_size (rest := []) rfl rfl (Nat.le_of_ble_eq_true rfl) dX5_stir_33 ⟨(Nat.le_of_ble_eq_true rfl), (Nat.le_of_ble_eq_true rfl)⟩ ⟨(Nat.le_of_ble_eq_true rfl), (Nat.le_of_ble_eq_true rfl)⟩) (fun _ => rfl) (fun r_33 _ h_33 => ?_)
    obtain rfl := h_33
    refine g_istoren C [(2, .int (nI (pop (clN (goS (m_s v) N) N)))), (0, .ref (a 0)), (1, .int x)] dX5_stir_36 rfl (by decide) rfl ?_
    refine g_aloadn C dX5_stir_37 1 rfl rfl ?_
    refine g_get C fx5 w_1 0 2 (v := .ref (a 3)) rfl (by decide) w_3 rfl dX5_stir_38 ?_
    refine g_iconst C 2 dX5_stir_41 (by decide) ?_
    refine g_iald C 3 (2) (f := (cp47 (m_s v) (m_aside v))) rfl rfl (by omega) (by decide) dX5_stir_42 ?_
    refine g_topci ((m_s v) 2) (cp_in (by omega)) ?_
    refine g_istoren C [(3, .int ((m_s v) 2)), (2, .int (nI (pop (clN (goS (m_s v) N) N)))), (0, .ref (a 0)), (1, .int x)] dX5_stir_43 rfl (by decide) rfl ?_
    refine g_iconst C 0 dX5_stir_44 (by decide) ?_
    refine g_istore C [(4, .int 0), (3, .int ((m_s v) 2)), (2, .int (nI (pop (clN (goS (m_s v) N) N)))), (0, .ref (a 0)), (1, .int x)] dX5_stir_45 (by decide) rfl ?_
    refine g_iconst C 0 dX5_stir_47 (by decide) ?_
    refine g_istore C [(5, .int 0), (4, .int 0), (3, .int ((m_s v) 2)), (2, .int (nI (pop (clN (goS (m_s v) N) N)))), (0, .ref (a 0)), (1, .int x)] dX5_stir_48 (by decide) rfl ?_
    have J_50 : ∀ (fu : Nat) (i : Nat) (T : Nat → Int32) (hd : Nat → Int32) (mv : Nat → Int32), j - i < fu → (i ≤ j) → (∀ k, 47 ≤ k → T k = (m_s v) k) → G p l e ({ frames := 6, cells := 0, slots := 0, locals := 133 } : Room) s m args below meth c 6 D A (MQ below (va_Qi (fun (r : Int32) (u : (Nat → Int32) × (Nat → Int32) × (Nat → Int32)) => r = R_stir (m_s v) N x) (Bw D A (fun u => (mw q a ((m_s v), (m_held v), u.1, (m_before v), (m_untried v), (m_isHeld v), (m_tape v), (m_taped v), (m_token v), (m_from v), (m_to v), (m_value v), (m_isWrong v), u.2.1, u.2.2, (m_rows v), (m_rowN v), (m_sortOf v), (m_sizeOf v), (m_numbers v), (m_holdsWhat v), (m_holdsWhich v), (m_holdsMany v), (m_bodies v), (m_ran v), (m_actKind v), (m_actN v), (m_actA v), (m_isParted v))))) A) args s 0 0 A) 50 [(0, .ref (a 0)), (1, .int x), (2, .int (nI (pop (clN (goS (m_s v) N) N)))), (3, .int ((stL (m_s v) N (nI (pop (clN (goS (m_s v) N) N))) i).1)), (4, .int ((stL (m_s v) N (nI (pop (clN (goS (m_s v) N) N))) i).2)), (5, .int (nI i))] [] (mw q a (T, (m_held v), (cp47 (m_s v) (m_aside v)), (m_before v), (m_untried v), (m_isHeld v), (m_tape v), (m_taped v), (m_token v), (m_from v), (m_to v), (m_value v), (m_isWrong v), hd, mv, (m_rows v), (m_rowN v), (m_sortOf v), (m_sizeOf v), (m_numbers v), (m_holdsWhat v), (m_holdsWhich v), (m_holdsMany v), (m_bodies v), (m_ran v), (m_actKind v), (m_actN v), (m_actA v), (m_isParted v))) 0 0 := by
      intro fu
      induction fu with
      | zero =>
        intro i T hd mv hfu
        exact absurd hfu (Nat.not_lt_zero _)
      | succ fu ih =>
        intro i T hd mv hfu hi hT
        refine g_iload C dX5_stir_50 5 rfl ?_
        refine g_iloadn C dX5_stir_52 1 rfl rfl ?_
        refine g_topci (nI j) (ej) ?_
        refine g_icmpN_ge C 105 (i) (j) dX5_stir_53 rfl (by omega) (by omega) (fun c_53 => ?_) (fun c_53 => ?_)
        · refine g_aloadn C dX5_stir_105 0 rfl rfl ?_
          refine g_get C fx5 w_1 0 2 (v := .ref (a 3)) rfl (by decide) w_3 rfl dX5_stir_106 ?_
          refine g_aloadn C dX5_stir_109 0 rfl rfl ?_
          refine g_get C fx5 w_1 0 0 (v := .ref (a 1)) rfl (by decide) w_2 rfl dX5_stir_110 ?_
          refine g_callWv (w1 := (mw q a (T, (m_held v), (cp47 (m_s v) (m_aside v)), (m_before v), (m_untried v), (m_isHeld v), (m_tape v), (m_taped v), (m_token v), (m_from v), (m_to v), (m_value v), (m_isWrong v), hd, mv, (m_rows v), (m_rowN v), (m_sortOf v), (m_sizeOf v), (m_numbers v), (m_holdsWhat v), (m_holdsWhich v), (m_holdsMany v), (m_bodies v), (m_ran v), (m_actKind v), (m_actN v), (m_actA v), (m_isParted v)))) (wr := ([0, 2, 4, 5, 6, 7, 8, 9, 10, 11, 12, 13, 14, 15, 16] : List Nat).filterMap (fun i => (mw q a (T, (m_held v), (cp47 (m_s v) (m_aside v)), (m_before v), (m_untried v), (m_isHeld v), (m_tape v), (m_taped v), (m_token v), (m_from v), (m_to v), (m_value v), (m_isWrong v), hd, mv, (m_rows v), (m_rowN v), (m_sortOf v), (m_sizeOf v), (m_numbers v), (m_holdsWhat v), (m_holdsWhich v), (m_holdsMany v), (m_bodies v), (m_ran v), (m_actKind v), (m_actN v), (m_actA v), (m_isParted v)))[i]?)) (isC := [3, 1]) (isR := [0, 2, 4, 5, 6, 7, 8, 9, 10, 11, 12, 13, 14, 15, 16]) (pm := [0, 16, 1, 15, 2, 3, 4, 5, 6, 7, 8, 9, 10, 11, 12, 13, 14]) (w1' := (fun _ => (mw q a ((cp47 (cp47 (m_s v) (m_aside v)) T), (m_held v), (cp47 (m_s v) (m_aside v)), (m_before v), (m_untried v), (m_isHeld v), (m_tape v), (m_taped v), (m_token v), (m_from v), (m_to v), (m_value v), (m_isWrong v), hd, mv, (m_rows v), (m_rowN v), (m_sortOf v), (m_sizeOf v), (m_numbers v), (m_holdsWhat v), (m_holdsWhich v), (m_holdsMany v), (m_bodies v), (m_ran v), (m_actKind v), (m_actN v), (m_actA v), (m_isParted v))))) C (rd_S C (k_X5_copyRow l D q tt (a 3) (a 1) (cp47 (m_s v) (m_aside v)) T ) gX5_stir_X5_copyRow rfl rfl rfl 2 ok_X5_copyRow (rest := []) rfl rfl (Nat.le_of_ble_eq_true rfl) dX5_stir_113 ⟨(Nat.le_of_ble_eq_true rfl), (Nat.le_of_ble_eq_true rfl)⟩ ⟨(Nat.le_of_ble_eq_true rfl), (Nat.le_of_ble_eq_true rfl)⟩) rfl rfl rfl (fun _ => rfl) rfl (fun _ h_113 => ?_)
          refine g_wsc (mw q a ((m_s v), (m_held v), (cp47 (m_s v) (m_aside v)), (m_before v), (m_untried v), (m_isHeld v), (m_tape v), (m_taped v), (m_token v), (m_from v), (m_to v), (m_value v), (m_isWrong v), hd, mv, (m_rows v), (m_rowN v), (m_sortOf v), (m_sizeOf v), (m_numbers v), (m_holdsWhat v), (m_holdsWhich v), (m_holdsMany v), (m_bodies v), (m_ran v), (m_actKind v), (m_actN v), (m_actA v), (m_isParted v))) (by first | (rw [cp_back (fun k hk => hT k hk)]; done) | (rw [cp_back (fun k hk => hT k hk)]; rfl)) ?_
          refine g_iload C dX5_stir_116 4 rfl ?_
          exact g_iret C ((cp47 (m_s v) (m_aside v)), hd, mv) hr dX5_stir_118 (Nat.le_of_ble_eq_true rfl) (Nat.le_of_ble_eq_true rfl) rfl (by unfold R_stir; (repeat' split) <;> first | rfl | (rw [ec, show j = i by omega]; done) | (exfalso; simp only [lg_lt0, lg_gt0, w_le, w_lt, Int32.lt_iff_toInt_lt, Int32.le_iff_toInt_le, ← Int32.toInt_inj, tI_0, tI_1, tI_2, tI_3, tI_4, tI_5, tI_6, tI_7, tI_8, tI_9, tI_10, tI_13, tI_19, tI_20, tI_30, tI_32, tI_40, tI_48, tI_57, tI_59, tI_60, tI_97, tI_99, tI_100, tI_122, tI_200, tI_m1, tI_m2, tI_m3, tI_39, not_and, not_or] at * <;> omega))
        · refine g_aloadn C dX5_stir_56 0 rfl rfl ?_
          refine g_get C fx5 w_1 0 2 (v := .ref (a 3)) rfl (by decide) w_3 rfl dX5_stir_57 ?_
          refine g_aloadn C dX5_stir_60 0 rfl rfl ?_
          refine g_get C fx5 w_1 0 0 (v := .ref (a 1)) rfl (by decide) w_2 rfl dX5_stir_61 ?_
          refine g_callWv (w1 := (mw q a (T, (m_held v), (cp47 (m_s v) (m_aside v)), (m_before v), (m_untried v), (m_isHeld v), (m_tape v), (m_taped v), (m_token v), (m_from v), (m_to v), (m_value v), (m_isWrong v), hd, mv, (m_rows v), (m_rowN v), (m_sortOf v), (m_sizeOf v), (m_numbers v), (m_holdsWhat v), (m_holdsWhich v), (m_holdsMany v), (m_bodies v), (m_ran v), (m_actKind v), (m_actN v), (m_actA v), (m_isParted v)))) (wr := ([0, 2, 4, 5, 6, 7, 8, 9, 10, 11, 12, 13, 14, 15, 16] : List Nat).filterMap (fun i => (mw q a (T, (m_held v), (cp47 (m_s v) (m_aside v)), (m_before v), (m_untried v), (m_isHeld v), (m_tape v), (m_taped v), (m_token v), (m_from v), (m_to v), (m_value v), (m_isWrong v), hd, mv, (m_rows v), (m_rowN v), (m_sortOf v), (m_sizeOf v), (m_numbers v), (m_holdsWhat v), (m_holdsWhich v), (m_holdsMany v), (m_bodies v), (m_ran v), (m_actKind v), (m_actN v), (m_actA v), (m_isParted v)))[i]?)) (isC := [3, 1]) (isR := [0, 2, 4, 5, 6, 7, 8, 9, 10, 11, 12, 13, 14, 15, 16]) (pm := [0, 16, 1, 15, 2, 3, 4, 5, 6, 7, 8, 9, 10, 11, 12, 13, 14]) (w1' := (fun _ => (mw q a ((cp47 (cp47 (m_s v) (m_aside v)) T), (m_held v), (cp47 (m_s v) (m_aside v)), (m_before v), (m_untried v), (m_isHeld v), (m_tape v), (m_taped v), (m_token v), (m_from v), (m_to v), (m_value v), (m_isWrong v), hd, mv, (m_rows v), (m_rowN v), (m_sortOf v), (m_sizeOf v), (m_numbers v), (m_holdsWhat v), (m_holdsWhich v), (m_holdsMany v), (m_bodies v), (m_ran v), (m_actKind v), (m_actN v), (m_actA v), (m_isParted v))))) C (rd_S C (k_X5_copyRow l D q tt (a 3) (a 1) (cp47 (m_s v) (m_aside v)) T ) gX5_stir_X5_copyRow rfl rfl rfl 2 ok_X5_copyRow (rest := []) rfl rfl (Nat.le_of_ble_eq_true rfl) dX5_stir_64 ⟨(Nat.le_of_ble_eq_true rfl), (Nat.le_of_ble_eq_true rfl)⟩ ⟨(Nat.le_of_ble_eq_true rfl), (Nat.le_of_ble_eq_true rfl)⟩) rfl rfl rfl (fun _ => rfl) rfl (fun _ h_64 => ?_)
          refine g_wsc (mw q a ((m_s v), (m_held v), (cp47 (m_s v) (m_aside v)), (m_before v), (m_untried v), (m_isHeld v), (m_tape v), (m_taped v), (m_token v), (m_from v), (m_to v), (m_value v), (m_isWrong v), hd, mv, (m_rows v), (m_rowN v), (m_sortOf v), (m_sizeOf v), (m_numbers v), (m_holdsWhat v), (m_holdsWhich v), (m_holdsMany v), (m_bodies v), (m_ran v), (m_actKind v), (m_actN v), (m_actA v), (m_isParted v))) (by first | (rw [cp_back (fun k hk => hT k hk)]; done) | (rw [cp_back (fun k hk => hT k hk)]; rfl)) ?_
          refine g_aloadn C dX5_stir_67 0 rfl rfl ?_
          refine g_get C fx5 w_1 0 0 (v := .ref (a 1)) rfl (by decide) w_2 rfl dX5_stir_68 ?_
          refine g_iconst C 2 dX5_stir_71 (by decide) ?_
          refine g_iloadn C dX5_stir_72 3 rfl rfl ?_
          refine g_iast C 1 (2) (f := (m_s v)) rfl rfl (by omega) (by decide) dX5_stir_73 (mw q a ((upd (m_s v) 2 ((stL (m_s v) N (nI (pop (clN (goS (m_s v) N) N))) i).1)), (m_held v), (cp47 (m_s v) (m_aside v)), (m_before v), (m_untried v), (m_isHeld v), (m_tape v), (m_taped v), (m_token v), (m_from v), (m_to v), (m_value v), (m_isWrong v), hd, mv, (m_rows v), (m_rowN v), (m_sortOf v), (m_sizeOf v), (m_numbers v), (m_holdsWhat v), (m_holdsWhich v), (m_holdsMany v), (m_bodies v), (m_ran v), (m_actKind v), (m_actN v), (m_actA v), (m_isParted v))) rfl ?_
          refine g_iload C dX5_stir_74 4 rfl ?_
          refine g_aloadn C dX5_stir_76 0 rfl rfl ?_
          refine g_callAi C (rd_V C (k_X5_minute l D q tt a ((upd (m_s v) 2 ((stL (m_s v) N (nI (pop (clN (goS (m_s v) N) N))) i).1)), (m_held v), (cp47 (m_s v) (m_aside v)), (m_before v), (m_untried v), (m_isHeld v), (m_tape v), (m_taped v), (m_token v), (m_from v), (m_to v), (m_value v), (m_isWrong v), hd, mv, (m_rows v), (m_rowN v), (m_sortOf v), (m_sizeOf v), (m_numbers v), (m_holdsWhat v), (m_holdsWhich v), (m_holdsMany v), (m_bodies v), (m_ran v), (m_actKind v), (m_actN v), (m_actA v), (m_isParted v)) N (hG.z _)) gX5_stir_X5_minute rfl rfl rfl 0 ok_X5_minute rfl 0 rfl rfl (rest := [.int ((stL (m_s v) N (nI (pop (clN (goS (m_s v) N) N))) i).2)]) rfl rfl (Nat.le_of_ble_eq_true rfl) dX5_stir_77 ⟨(Nat.le_of_ble_eq_true rfl), (Nat.le_of_ble_eq_true rfl)⟩ ⟨(Nat.le_of_ble_eq_true rfl), (Nat.le_of_ble_eq_true rfl)⟩) (fun r_77 u_77 h_77 => ?_)
          obtain rfl := h_77
          refine g_wsc (mw q a ((mnS (upd (m_s v) 2 ((stL (m_s v) N (nI (pop (clN (goS (m_s v) N) N))) i).1)) N), (m_held v), (cp47 (m_s v) (m_aside v)), (m_before v), (m_untried v), (m_isHeld v), (m_tape v), (m_taped v), (m_token v), (m_from v), (m_to v), (m_value v), (m_isWrong v), u_77.1, u_77.2, (m_rows v), (m_rowN v), (m_sortOf v), (m_sizeOf v), (m_numbers v), (m_holdsWhat v), (m_holdsWhich v), (m_holdsMany v), (m_bodies v), (m_ran v), (m_actKind v), (m_actN v), (m_actA v), (m_isParted v))) rfl ?_
          refine g_topci (nI (pop (clN (mnS (upd (m_s v) 2 ((stL (m_s v) N (nI (pop (clN (goS (m_s v) N) N))) i).1)) N) N))) rfl ?_
          refine g_iloadn C dX5_stir_80 2 rfl rfl ?_
          refine g_icmp_le C 88 dX5_stir_81 rfl (fun c_81 => ?_) (fun c_81 => ?_)
          · refine g_iconst C 0 dX5_stir_88 (by decide) ?_
            refine g_iadd C dX5_stir_89 ?_
            refine g_topci ((stL (m_s v) N (nI (pop (clN (goS (m_s v) N) N))) (i + 1)).2) (by show _ = (stL (m_s v) N (nI (pop (clN (goS (m_s v) N) N))) i).2 + (if _ then 1 else 0); rw [if_neg (Int32.not_lt.mpr c_81)]) ?_
            refine g_istore C [(4, .int ((stL (m_s v) N (nI (pop (clN (goS (m_s v) N) N))) (i + 1)).2)), (0, .ref (a 0)), (1, .int x), (2, .int (nI (pop (clN (goS (m_s v) N) N)))), (3, .int ((stL (m_s v) N (nI (pop (clN (goS (m_s v) N) N))) i).1)), (5, .int (nI i))] dX5_stir_90 (by decide) rfl ?_
            refine g_aloadn C dX5_stir_92 1 rfl rfl ?_
            refine g_get C fx5 w_1 0 0 (v := .ref (a 1)) rfl (by decide) w_2 rfl dX5_stir_93 ?_
            refine g_iconst C 2 dX5_stir_96 (by decide) ?_
            refine g_iald C 1 (2) (f := (mnS (upd (m_s v) 2 ((stL (m_s v) N (nI (pop (clN (goS (m_s v) N) N))) i).1)) N)) rfl rfl (by omega) (by decide) dX5_stir_97 ?_
            refine g_topci ((stL (m_s v) N (nI (pop (clN (goS (m_s v) N) N))) (i + 1)).1) (rfl) ?_
            refine g_istoren C [(3, .int ((stL (m_s v) N (nI (pop (clN (goS (m_s v) N) N))) (i + 1)).1)), (4, .int ((stL (m_s v) N (nI (pop (clN (goS (m_s v) N) N))) (i + 1)).2)), (0, .ref (a 0)), (1, .int x), (2, .int (nI (pop (clN (goS (m_s v) N) N)))), (5, .int (nI i))] dX5_stir_98 rfl (by decide) rfl ?_
            refine g_iinc C (nI (i + 1)) [(5, .int (nI (i + 1))), (3, .int ((stL (m_s v) N (nI (pop (clN (goS (m_s v) N) N))) (i + 1)).1)), (4, .int ((stL (m_s v) N (nI (pop (clN (goS (m_s v) N) N))) (i + 1)).2)), (0, .ref (a 0)), (1, .int x), (2, .int (nI (pop (clN (goS (m_s v) N) N))))] dX5_stir_99 5 rfl (nI_add i 1) (by decide) rfl ?_
            refine g_goto C 50 dX5_stir_102 rfl ?_
            refine g_sub [3, 4, 5, 1, 2, 0] (lv' := [(0, .ref (a 0)), (1, .int x), (2, .int (nI (pop (clN (goS (m_s v) N) N)))), (3, .int ((stL (m_s v) N (nI (pop (clN (goS (m_s v) N) N))) (i + 1)).1)), (4, .int ((stL (m_s v) N (nI (pop (clN (goS (m_s v) N) N))) (i + 1)).2)), (5, .int (nI (i + 1)))]) rfl ?_
            exact ih ((i + 1)) ((mnS (upd (m_s v) 2 ((stL (m_s v) N (nI (pop (clN (goS (m_s v) N) N))) i).1)) N)) (u_77.1) (u_77.2) (by omega) (by first | assumption | omega) (fun k hk => (mn_hi (hG.z _) hk).trans (pk_un (by omega)))
          · refine g_iconst C 1 dX5_stir_84 (by decide) ?_
            refine g_goto C 89 dX5_stir_85 rfl ?_
            refine g_iadd C dX5_stir_89 ?_
            refine g_topci ((stL (m_s v) N (nI (pop (clN (goS (m_s v) N) N))) (i + 1)).2) (by show _ = (stL (m_s v) N (nI (pop (clN (goS (m_s v) N) N))) i).2 + (if _ then 1 else 0); rw [if_pos (Int32.not_le.mp c_81)]) ?_
            refine g_istore C [(4, .int ((stL (m_s v) N (nI (pop (clN (goS (m_s v) N) N))) (i + 1)).2)), (0, .ref (a 0)), (1, .int x), (2, .int (nI (pop (clN (goS (m_s v) N) N)))), (3, .int ((stL (m_s v) N (nI (pop (clN (goS (m_s v) N) N))) i).1)), (5, .int (nI i))] dX5_stir_90 (by decide) rfl ?_
            refine g_aloadn C dX5_stir_92 1 rfl rfl ?_
            refine g_get C fx5 w_1 0 0 (v := .ref (a 1)) rfl (by decide) w_2 rfl dX5_stir_93 ?_
            refine g_iconst C 2 dX5_stir_96 (by decide) ?_
            refine g_iald C 1 (2) (f := (mnS (upd (m_s v) 2 ((stL (m_s v) N (nI (pop (clN (goS (m_s v) N) N))) i).1)) N)) rfl rfl (by omega) (by decide) dX5_stir_97 ?_
            refine g_topci ((stL (m_s v) N (nI (pop (clN (goS (m_s v) N) N))) (i + 1)).1) (rfl) ?_
            refine g_istoren C [(3, .int ((stL (m_s v) N (nI (pop (clN (goS (m_s v) N) N))) (i + 1)).1)), (4, .int ((stL (m_s v) N (nI (pop (clN (goS (m_s v) N) N))) (i + 1)).2)), (0, .ref (a 0)), (1, .int x), (2, .int (nI (pop (clN (goS (m_s v) N) N)))), (5, .int (nI i))] dX5_stir_98 rfl (by decide) rfl ?_
            refine g_iinc C (nI (i + 1)) [(5, .int (nI (i + 1))), (3, .int ((stL (m_s v) N (nI (pop (clN (goS (m_s v) N) N))) (i + 1)).1)), (4, .int ((stL (m_s v) N (nI (pop (clN (goS (m_s v) N) N))) (i + 1)).2)), (0, .ref (a 0)), (1, .int x), (2, .int (nI (pop (clN (goS (m_s v) N) N))))] dX5_stir_99 5 rfl (nI_add i 1) (by decide) rfl ?_
            refine g_goto C 50 dX5_stir_102 rfl ?_
            refine g_sub [3, 4, 5, 1, 2, 0] (lv' := [(0, .ref (a 0)), (1, .int x), (2, .int (nI (pop (clN (goS (m_s v) N) N)))), (3, .int ((stL (m_s v) N (nI (pop (clN (goS (m_s v) N) N))) (i + 1)).1)), (4, .int ((stL (m_s v) N (nI (pop (clN (goS (m_s v) N) N))) (i + 1)).2)), (5, .int (nI (i + 1)))]) rfl ?_
            exact ih ((i + 1)) ((mnS (upd (m_s v) 2 ((stL (m_s v) N (nI (pop (clN (goS (m_s v) N) N))) i).1)) N)) (u_77.1) (u_77.2) (by omega) (by first | assumption | omega) (fun k hk => (mn_hi (hG.z _) hk).trans (pk_un (by omega)))
    refine g_sub [4, 5, 3, 2, 1, 0] (lv' := [(0, .ref (a 0)), (1, .int x), (2, .int (nI (pop (clN (goS (m_s v) N) N)))), (3, .int ((m_s v) 2)), (4, .int 0), (5, .int 0)]) rfl ?_
    exact J_50 _ (0) ((goS (m_s v) N)) (u_26.1) (u_26.2) (Nat.lt_succ_self _) (by first | assumption | omega) (fun k hk => go_hi hG hk)
  · refine g_iconst C (-1) dX5_stir_12 (by decide) ?_
    exact g_iret C ((m_aside v), (m_heard v), (m_isMoved v)) hr dX5_stir_13 (Nat.le_of_ble_eq_true rfl) (Nat.le_of_ble_eq_true rfl) rfl (by unfold R_stir; (repeat' split) <;> first | rfl | (rw [ec, show j = i by omega]; done) | (exfalso; simp only [lg_lt0, lg_gt0, w_le, w_lt, Int32.lt_iff_toInt_lt, Int32.le_iff_toInt_le, ← Int32.toInt_inj, tI_0, tI_1, tI_2, tI_3, tI_4, tI_5, tI_6, tI_7, tI_8, tI_9, tI_10, tI_13, tI_19, tI_20, tI_30, tI_32, tI_40, tI_48, tI_57, tI_59, tI_60, tI_97, tI_99, tI_100, tI_122, tI_200, tI_m1, tI_m2, tI_m3, tI_39, not_and, not_or] at * <;> omega))

set_option maxRecDepth 100000 in
set_option maxHeartbeats 4000000 in
theorem k_X5_sumOf (l : Launch) (D : va_G) (q : Nat → ClassId) (tt : Nat → Nat) (a : Nat → Nat) (v : MC) (N : Nat) (w : Nat) (hG : Gd (m_s v) N) (hw : w < 5) : MI l D q tt yX5_sumOf wsX5_sumOf ({ frames := 1, cells := 0, slots := 0, locals := 22 } : Room) [.ref (a 0), .int (nI w)] (mw q a v) (fun (r : Int32) (u : Unit) => r = (sumI (fun o => (m_s v) (7 + 5 * o + w)) N)) (fun (_ : Unit) => (mw q a v)) 0 0 := by
  refine MI.of RX5 [(0, .ref (a 0)), (1, .int (nI w))] (by decide) rfl rfl (Nat.le_of_ble_eq_true rfl) rfl ?_
  intro p e s m args below meth c A C hr hnm
  have w_0 : ∀ w ∈ u_ws RX5 TX5 29, w ∈ wsX5_sumOf := by decide +kernel
  have w_1 : Cond.fieldLink RX5 7 (TX5 0).1 (TX5 0).2.1 (TX5 0).2.2.1 ∈ wsX5_sumOf := by decide +kernel
  have h8 := hG.le
  refine g_iconst C 0 dX5_sumOf_0 (by decide) ?_
  refine g_istoren C [(2, .int 0), (0, .ref (a 0)), (1, .int (nI w))] dX5_sumOf_1 rfl (by decide) rfl ?_
  refine g_iconst C 0 dX5_sumOf_2 (by decide) ?_
  refine g_istoren C [(3, .int 0), (2, .int 0), (0, .ref (a 0)), (1, .int (nI w))] dX5_sumOf_3 rfl (by decide) rfl ?_
  have J_4 : ∀ (fu : Nat) (i : Nat), N - i < fu → (i ≤ N) → G p l e ({ frames := 1, cells := 0, slots := 0, locals := 22 } : Room) s m args below meth c 4 D A (MQ below (va_Qi (fun (r : Int32) (u : Unit) => r = (sumI (fun o => (m_s v) (7 + 5 * o + w)) N)) (Bw D A (fun (_ : Unit) => (mw q a v))) A) args s 0 0 A) 4 [(0, .ref (a 0)), (1, .int (nI w)), (2, .int (sumI (fun o => (m_s v) (7 + 5 * o + w)) i)), (3, .int (nI i))] [] (mw q a v) 0 0 := by
    intro fu
    induction fu with
    | zero =>
      intro i hfu
      exact absurd hfu (Nat.not_lt_zero _)
    | succ fu ih =>
      intro i hfu hi
      refine g_iloadn C dX5_sumOf_4 3 rfl rfl ?_
      refine g_aloadn C dX5_sumOf_5 0 rfl rfl ?_
      refine g_get C fx5 w_0 0 0 (v := .ref (a 1)) rfl (by decide) w_1 rfl dX5_sumOf_6 ?_
      refine g_iconst C 0 dX5_sumOf_9 (by decide) ?_
      refine g_iald C 1 (0) (f := (m_s v)) rfl rfl (by omega) (by decide) dX5_sumOf_10 ?_
      refine g_topci (nI N) (hG.n) ?_
      refine g_icmpN_ge C 29 (i) (N) dX5_sumOf_11 rfl (by omega) (by omega) (fun c_11 => ?_) (fun c_11 => ?_)
      · refine g_iloadn C dX5_sumOf_29 2 rfl rfl ?_
        exact g_iret C () hr dX5_sumOf_30 (Nat.le_of_ble_eq_true rfl) (Nat.le_of_ble_eq_true rfl) rfl (by have e : i = N := (by omega); rw [e])
      · refine g_iloadn C dX5_sumOf_14 2 rfl rfl ?_
        refine g_aloadn C dX5_sumOf_15 0 rfl rfl ?_
        refine g_iloadn C dX5_sumOf_16 3 rfl rfl ?_
        refine g_iloadn C dX5_sumOf_17 1 rfl rfl ?_
        refine g_callAi C (rd_V C (k_X5_its l D q tt a v i w (by first | assumption | omega) (by first | assumption | omega)) gX5_sumOf_X5_its rfl rfl rfl 2 ok_X5_its rfl 0 rfl rfl (rest := [.int (sumI (fun o => (m_s v) (7 + 5 * o + w)) i)]) rfl rfl (Nat.le_of_ble_eq_true rfl) dX5_sumOf_18 ⟨(Nat.le_of_ble_eq_true rfl), (Nat.le_of_ble_eq_true rfl)⟩ ⟨(Nat.le_of_ble_eq_true rfl), (Nat.le_of_ble_eq_true rfl)⟩) (fun r_18 _ h_18 => ?_)
        obtain rfl := h_18
        refine g_iadd C dX5_sumOf_21 ?_
        refine g_topci (sumI (fun o => (m_s v) (7 + 5 * o + w)) (i + 1)) (rfl) ?_
        refine g_istoren C [(2, .int (sumI (fun o => (m_s v) (7 + 5 * o + w)) (i + 1))), (0, .ref (a 0)), (1, .int (nI w)), (3, .int (nI i))] dX5_sumOf_22 rfl (by decide) rfl ?_
        refine g_iinc C (nI (i + 1)) [(3, .int (nI (i + 1))), (2, .int (sumI (fun o => (m_s v) (7 + 5 * o + w)) (i + 1))), (0, .ref (a 0)), (1, .int (nI w))] dX5_sumOf_23 3 rfl (nI_add i 1) (by decide) rfl ?_
        refine g_goto C 4 dX5_sumOf_26 rfl ?_
        refine g_sub [2, 3, 1, 0] (lv' := [(0, .ref (a 0)), (1, .int (nI w)), (2, .int (sumI (fun o => (m_s v) (7 + 5 * o + w)) (i + 1))), (3, .int (nI (i + 1)))]) rfl ?_
        exact ih ((i + 1)) (by omega) (by first | assumption | omega)
  refine g_sub [2, 3, 1, 0] (lv' := [(0, .ref (a 0)), (1, .int (nI w)), (2, .int 0), (3, .int 0)]) rfl ?_
  exact J_4 _ (0) (Nat.lt_succ_self _) (by first | assumption | omega)

set_option maxRecDepth 100000 in
set_option maxHeartbeats 4000000 in
theorem k_X5_loudAll (l : Launch) (D : va_G) (q : Nat → ClassId) (tt : Nat → Nat) (a : Nat → Nat) (v : MC) (N : Nat) (hG : Gd (m_s v) N) : MI l D q tt yX5_loudAll wsX5_loudAll ({ frames := 3, cells := 0, slots := 0, locals := 68 } : Room) [.ref (a 0)] (mw q a v) (fun (r : Int32) (u : Unit) => r = (sumI (laT (m_s v)) N)) (fun (_ : Unit) => (mw q a v)) 0 0 := by
  refine MI.of RX5 [(0, .ref (a 0))] (by decide) rfl rfl (Nat.le_of_ble_eq_true rfl) rfl ?_
  intro p e s m args below meth c A C hr hnm
  have h8 := hG.le
  refine g_iconst C 0 dX5_loudAll_0 (by decide) ?_
  refine g_istoren C [(1, .int 0), (0, .ref (a 0))] dX5_loudAll_1 rfl (by decide) rfl ?_
  refine g_iconst C 0 dX5_loudAll_2 (by decide) ?_
  refine g_istoren C [(2, .int 0), (1, .int 0), (0, .ref (a 0))] dX5_loudAll_3 rfl (by decide) rfl ?_
  have J_4 : ∀ (fu : Nat) (i : Nat), 8 - i < fu → (i ≤ 8) → G p l e ({ frames := 3, cells := 0, slots := 0, locals := 68 } : Room) s m args below meth c 3 D A (MQ below (va_Qi (fun (r : Int32) (u : Unit) => r = (sumI (laT (m_s v)) N)) (Bw D A (fun (_ : Unit) => (mw q a v))) A) args s 0 0 A) 4 [(0, .ref (a 0)), (1, .int (sumI (fun r => liS (m_s v) N (nI r) (-1)) i)), (2, .int (nI i))] [] (mw q a v) 0 0 := by
    intro fu
    induction fu with
    | zero =>
      intro i hfu
      exact absurd hfu (Nat.not_lt_zero _)
    | succ fu ih =>
      intro i hfu hi
      refine g_iloadn C dX5_loudAll_4 2 rfl rfl ?_
      refine g_bipush C 8 dX5_loudAll_5 (by decide) ?_
      refine g_icmpN_ge C 25 (i) (8) dX5_loudAll_7 rfl (by omega) (by omega) (fun c_7 => ?_) (fun c_7 => ?_)
      · refine g_iloadn C dX5_loudAll_25 1 rfl rfl ?_
        exact g_iret C () hr dX5_loudAll_26 (Nat.le_of_ble_eq_true rfl) (Nat.le_of_ble_eq_true rfl) rfl (by have e : i = 8 := (by omega); rw [e, ← la_rooms (fun o ho => (hG.one ho).2.1)]; simp only [sumI, li_all h8]; simp)
      · refine g_iloadn C dX5_loudAll_10 1 rfl rfl ?_
        refine g_aloadn C dX5_loudAll_11 0 rfl rfl ?_
        refine g_iloadn C dX5_loudAll_12 2 rfl rfl ?_
        refine g_iconst C (-1) dX5_loudAll_13 (by decide) ?_
        refine g_callAi C (rd_V C (k_X5_loudIn l D q tt a v N (nI i) (-1) (by first | assumption | omega)) gX5_loudAll_X5_loudIn rfl rfl rfl 2 ok_X5_loudIn rfl 0 rfl rfl (rest := [.int (sumI (fun r => liS (m_s v) N (nI r) (-1)) i)]) rfl rfl (Nat.le_of_ble_eq_true rfl) dX5_loudAll_14 ⟨(Nat.le_of_ble_eq_true rfl), (Nat.le_of_ble_eq_true rfl)⟩ ⟨(Nat.le_of_ble_eq_true rfl), (Nat.le_of_ble_eq_true rfl)⟩) (fun r_14 _ h_14 => ?_)
        obtain rfl := h_14
        refine g_iadd C dX5_loudAll_17 ?_
        refine g_topci (sumI (fun r => liS (m_s v) N (nI r) (-1)) (i + 1)) (rfl) ?_
        refine g_istoren C [(1, .int (sumI (fun r => liS (m_s v) N (nI r) (-1)) (i + 1))), (0, .ref (a 0)), (2, .int (nI i))] dX5_loudAll_18 rfl (by decide) rfl ?_
        refine g_iinc C (nI (i + 1)) [(2, .int (nI (i + 1))), (1, .int (sumI (fun r => liS (m_s v) N (nI r) (-1)) (i + 1))), (0, .ref (a 0))] dX5_loudAll_19 2 rfl (nI_add i 1) (by decide) rfl ?_
        refine g_goto C 4 dX5_loudAll_22 rfl ?_
        refine g_sub [2, 1, 0] (lv' := [(0, .ref (a 0)), (1, .int (sumI (fun r => liS (m_s v) N (nI r) (-1)) (i + 1))), (2, .int (nI (i + 1)))]) rfl ?_
        exact ih ((i + 1)) (by omega) (by first | assumption | omega)
  refine g_sub [2, 1, 0] (lv' := [(0, .ref (a 0)), (1, .int 0), (2, .int 0)]) rfl ?_
  exact J_4 _ (0) (Nat.lt_succ_self _) (by first | assumption | omega)

set_option maxRecDepth 100000 in
set_option maxHeartbeats 4000000 in
theorem k_X5_roomsInUse (l : Launch) (D : va_G) (q : Nat → ClassId) (tt : Nat → Nat) (a : Nat → Nat) (v : MC) (N : Nat) (hG : Gd (m_s v) N) : MI l D q tt yX5_roomsInUse wsX5_roomsInUse ({ frames := 1, cells := 0, slots := 0, locals := 22 } : Room) [.ref (a 0)] (mw q a v) (fun (r : Int32) (u : Unit) => r = (orI (rtT (m_s v)) N)) (fun (_ : Unit) => (mw q a v)) 0 0 := by
  refine MI.of RX5 [(0, .ref (a 0))] (by decide) rfl rfl (Nat.le_of_ble_eq_true rfl) rfl ?_
  intro p e s m args below meth c A C hr hnm
  have w_0 : ∀ w ∈ u_ws RX5 TX5 29, w ∈ wsX5_roomsInUse := by decide +kernel
  have w_1 : Cond.fieldLink RX5 7 (TX5 0).1 (TX5 0).2.1 (TX5 0).2.2.1 ∈ wsX5_roomsInUse := by decide +kernel
  have h8 := hG.le
  refine g_iconst C 0 dX5_roomsInUse_0 (by decide) ?_
  refine g_istoren C [(1, .int 0), (0, .ref (a 0))] dX5_roomsInUse_1 rfl (by decide) rfl ?_
  refine g_iconst C 0 dX5_roomsInUse_2 (by decide) ?_
  refine g_istoren C [(2, .int 0), (1, .int 0), (0, .ref (a 0))] dX5_roomsInUse_3 rfl (by decide) rfl ?_
  have J_4 : ∀ (fu : Nat) (i : Nat), N - i < fu → (i ≤ N) → G p l e ({ frames := 1, cells := 0, slots := 0, locals := 22 } : Room) s m args below meth c 3 D A (MQ below (va_Qi (fun (r : Int32) (u : Unit) => r = (orI (rtT (m_s v)) N)) (Bw D A (fun (_ : Unit) => (mw q a v))) A) args s 0 0 A) 4 [(0, .ref (a 0)), (1, .int (orI (rtT (m_s v)) i)), (2, .int (nI i))] [] (mw q a v) 0 0 := by
    intro fu
    induction fu with
    | zero =>
      intro i hfu
      exact absurd hfu (Nat.not_lt_zero _)
    | succ fu ih =>
      intro i hfu hi
      refine g_iloadn C dX5_roomsInUse_4 2 rfl rfl ?_
      refine g_aloadn C dX5_roomsInUse_5 0 rfl rfl ?_
      refine g_get C fx5 w_0 0 0 (v := .ref (a 1)) rfl (by decide) w_1 rfl dX5_roomsInUse_6 ?_
      refine g_iconst C 0 dX5_roomsInUse_9 (by decide) ?_
      refine g_iald C 1 (0) (f := (m_s v)) rfl rfl (by omega) (by decide) dX5_roomsInUse_10 ?_
      refine g_topci (nI N) (hG.n) ?_
      refine g_icmpN_ge C 31 (i) (N) dX5_roomsInUse_11 rfl (by omega) (by omega) (fun c_11 => ?_) (fun c_11 => ?_)
      · refine g_iloadn C dX5_roomsInUse_31 1 rfl rfl ?_
        exact g_iret C () hr dX5_roomsInUse_32 (Nat.le_of_ble_eq_true rfl) (Nat.le_of_ble_eq_true rfl) rfl (by have e : i = N := (by omega); rw [e])
      · refine g_iloadn C dX5_roomsInUse_14 1 rfl rfl ?_
        refine g_iconst C 1 dX5_roomsInUse_15 (by decide) ?_
        refine g_aloadn C dX5_roomsInUse_16 0 rfl rfl ?_
        refine g_iloadn C dX5_roomsInUse_17 2 rfl rfl ?_
        refine g_iconst C 3 dX5_roomsInUse_18 (by decide) ?_
        refine g_callAi C (rd_V C (k_X5_its l D q tt a v i 3 (by first | assumption | omega) (by first | assumption | omega)) gX5_roomsInUse_X5_its rfl rfl rfl 2 ok_X5_its rfl 0 rfl rfl (rest := [.int 1, .int (orI (rtT (m_s v)) i)]) rfl rfl (Nat.le_of_ble_eq_true rfl) dX5_roomsInUse_19 ⟨(Nat.le_of_ble_eq_true rfl), (Nat.le_of_ble_eq_true rfl)⟩ ⟨(Nat.le_of_ble_eq_true rfl), (Nat.le_of_ble_eq_true rfl)⟩) (fun r_19 _ h_19 => ?_)
        obtain rfl := h_19
        refine g_ishl C dX5_roomsInUse_22 ?_
        refine g_ior C dX5_roomsInUse_23 ?_
        refine g_topci (orI (rtT (m_s v)) (i + 1)) (rfl) ?_
        refine g_istoren C [(1, .int (orI (rtT (m_s v)) (i + 1))), (0, .ref (a 0)), (2, .int (nI i))] dX5_roomsInUse_24 rfl (by decide) rfl ?_
        refine g_iinc C (nI (i + 1)) [(2, .int (nI (i + 1))), (1, .int (orI (rtT (m_s v)) (i + 1))), (0, .ref (a 0))] dX5_roomsInUse_25 2 rfl (nI_add i 1) (by decide) rfl ?_
        refine g_goto C 4 dX5_roomsInUse_28 rfl ?_
        refine g_sub [2, 1, 0] (lv' := [(0, .ref (a 0)), (1, .int (orI (rtT (m_s v)) (i + 1))), (2, .int (nI (i + 1)))]) rfl ?_
        exact ih ((i + 1)) (by omega) (by first | assumption | omega)
  refine g_sub [2, 1, 0] (lv' := [(0, .ref (a 0)), (1, .int 0), (2, .int 0)]) rfl ?_
  exact J_4 _ (0) (Nat.lt_succ_self _) (by first | assumption | omega)

set_option maxRecDepth 100000 in
set_option maxHeartbeats 4000000 in
theorem k_X5_state (l : Launch) (D : va_G) (q : Nat → ClassId) (tt : Nat → Nat) (a : Nat → Nat) (v : MC) (N : Nat) (x : Int32) (hG : Gd (m_s v) N) : MI l D q tt yX5_state wsX5_state ({ frames := 4, cells := 0, slots := 0, locals := 90 } : Room) [.ref (a 0), .int x] (mw q a v) (fun (r : Int32) (u : Unit) => r = R_state (m_s v) N x) (fun (_ : Unit) => (mw q a v)) 0 0 := by
  refine MI.of RX5 [(0, .ref (a 0)), (1, .int x)] (by decide) rfl rfl (Nat.le_of_ble_eq_true rfl) rfl ?_
  intro p e s m args below meth c A C hr hnm
  have w_0 : ∀ w ∈ u_ws RX5 TX5 29, w ∈ wsX5_state := by decide +kernel
  have w_1 : Cond.fieldLink RX5 7 (TX5 0).1 (TX5 0).2.1 (TX5 0).2.2.1 ∈ wsX5_state := by decide +kernel
  have h8 := hG.le
  refine g_iloadn C dX5_state_0 1 rfl rfl ?_
  by_cases s_1_0 : x = 0
  · refine g_tin C 40 dX5_state_1 (by rw [s_1_0]; decide) (by rw [s_1_0]; decide) (by rw [s_1_0]; rfl) rfl ?_
    refine g_aloadn C dX5_state_40 0 rfl rfl ?_
    refine g_get C fx5 w_0 0 0 (v := .ref (a 1)) rfl (by decide) w_1 rfl dX5_state_41 ?_
    refine g_iconst C 1 dX5_state_44 (by decide) ?_
    refine g_iald C 1 (1) (f := (m_s v)) rfl rfl (by omega) (by decide) dX5_state_45 ?_
    exact g_iret C () hr dX5_state_46 (Nat.le_of_ble_eq_true rfl) (Nat.le_of_ble_eq_true rfl) rfl (by unfold R_state; rw [if_pos s_1_0])
  by_cases s_1_1 : x = 1
  · refine g_tin C 47 dX5_state_1 (by rw [s_1_1]; decide) (by rw [s_1_1]; decide) (by rw [s_1_1]; rfl) rfl ?_
    refine g_aloadn C dX5_state_47 0 rfl rfl ?_
    refine g_callAi C (rd_V C (k_X5_clappers l D q tt a v N (by first | assumption | omega)) gX5_state_X5_clappers rfl rfl rfl 0 ok_X5_clappers rfl 0 rfl rfl (rest := []) rfl rfl (Nat.le_of_ble_eq_true rfl) dX5_state_48 ⟨(Nat.le_of_ble_eq_true rfl), (Nat.le_of_ble_eq_true rfl)⟩ ⟨(Nat.le_of_ble_eq_true rfl), (Nat.le_of_ble_eq_true rfl)⟩) (fun r_48 _ h_48 => ?_)
    obtain rfl := h_48
    exact g_iret C () hr dX5_state_51 (Nat.le_of_ble_eq_true rfl) (Nat.le_of_ble_eq_true rfl) rfl (by unfold R_state; rw [if_neg s_1_0, if_pos s_1_1])
  by_cases s_1_2 : x = 2
  · refine g_tin C 52 dX5_state_1 (by rw [s_1_2]; decide) (by rw [s_1_2]; decide) (by rw [s_1_2]; rfl) rfl ?_
    refine g_aloadn C dX5_state_52 0 rfl rfl ?_
    refine g_iconst C 1 dX5_state_53 (by decide) ?_
    refine g_callAi C (rd_V C (k_X5_sumOf l D q tt a v N 1 (by first | assumption | omega) (by first | assumption | omega)) gX5_state_X5_sumOf rfl rfl rfl 1 ok_X5_sumOf rfl 0 rfl rfl (rest := []) rfl rfl (Nat.le_of_ble_eq_true rfl) dX5_state_54 ⟨(Nat.le_of_ble_eq_true rfl), (Nat.le_of_ble_eq_true rfl)⟩ ⟨(Nat.le_of_ble_eq_true rfl), (Nat.le_of_ble_eq_true rfl)⟩) (fun r_54 _ h_54 => ?_)
    obtain rfl := h_54
    exact g_iret C () hr dX5_state_57 (Nat.le_of_ble_eq_true rfl) (Nat.le_of_ble_eq_true rfl) rfl (by unfold R_state; rw [if_neg s_1_0, if_neg s_1_1, if_pos s_1_2]; rfl)
  by_cases s_1_3 : x = 3
  · refine g_tin C 58 dX5_state_1 (by rw [s_1_3]; decide) (by rw [s_1_3]; decide) (by rw [s_1_3]; rfl) rfl ?_
    refine g_sipush C 1000 dX5_state_58 (by decide) ?_
    refine g_aloadn C dX5_state_61 0 rfl rfl ?_
    refine g_callAi C (rd_V C (k_X5_loudAll l D q tt a v N (by first | assumption | omega)) gX5_state_X5_loudAll rfl rfl rfl 0 ok_X5_loudAll rfl 0 rfl rfl (rest := [.int 1000]) rfl rfl (Nat.le_of_ble_eq_true rfl) dX5_state_62 ⟨(Nat.le_of_ble_eq_true rfl), (Nat.le_of_ble_eq_true rfl)⟩ ⟨(Nat.le_of_ble_eq_true rfl), (Nat.le_of_ble_eq_true rfl)⟩) (fun r_62 _ h_62 => ?_)
    obtain rfl := h_62
    refine g_iadd C dX5_state_65 ?_
    exact g_iret C () hr dX5_state_66 (Nat.le_of_ble_eq_true rfl) (Nat.le_of_ble_eq_true rfl) rfl (by unfold R_state; rw [if_neg s_1_0, if_neg s_1_1, if_neg s_1_2, if_pos s_1_3])
  by_cases s_1_4 : x = 4
  · refine g_tin C 67 dX5_state_1 (by rw [s_1_4]; decide) (by rw [s_1_4]; decide) (by rw [s_1_4]; rfl) rfl ?_
    refine g_aloadn C dX5_state_67 0 rfl rfl ?_
    refine g_callAi C (rd_V C (k_X5_roomsInUse l D q tt a v N (by first | assumption | omega)) gX5_state_X5_roomsInUse rfl rfl rfl 0 ok_X5_roomsInUse rfl 0 rfl rfl (rest := []) rfl rfl (Nat.le_of_ble_eq_true rfl) dX5_state_68 ⟨(Nat.le_of_ble_eq_true rfl), (Nat.le_of_ble_eq_true rfl)⟩ ⟨(Nat.le_of_ble_eq_true rfl), (Nat.le_of_ble_eq_true rfl)⟩) (fun r_68 _ h_68 => ?_)
    obtain rfl := h_68
    exact g_iret C () hr dX5_state_71 (Nat.le_of_ble_eq_true rfl) (Nat.le_of_ble_eq_true rfl) rfl (by unfold R_state; rw [if_neg s_1_0, if_neg s_1_1, if_neg s_1_2, if_neg s_1_3, if_pos s_1_4])
  by_cases s_1_5 : x = 5
  · refine g_tin C 72 dX5_state_1 (by rw [s_1_5]; decide) (by rw [s_1_5]; decide) (by rw [s_1_5]; rfl) rfl ?_
    refine g_aloadn C dX5_state_72 0 rfl rfl ?_
    refine g_iconst C 2 dX5_state_73 (by decide) ?_
    refine g_callAi C (rd_V C (k_X5_sumOf l D q tt a v N 2 (by first | assumption | omega) (by first | assumption | omega)) gX5_state_X5_sumOf rfl rfl rfl 1 ok_X5_sumOf rfl 0 rfl rfl (rest := []) rfl rfl (Nat.le_of_ble_eq_true rfl) dX5_state_74 ⟨(Nat.le_of_ble_eq_true rfl), (Nat.le_of_ble_eq_true rfl)⟩ ⟨(Nat.le_of_ble_eq_true rfl), (Nat.le_of_ble_eq_true rfl)⟩) (fun r_74 _ h_74 => ?_)
    obtain rfl := h_74
    exact g_iret C () hr dX5_state_77 (Nat.le_of_ble_eq_true rfl) (Nat.le_of_ble_eq_true rfl) rfl (by unfold R_state; rw [if_neg s_1_0, if_neg s_1_1, if_neg s_1_2, if_neg s_1_3, if_neg s_1_4, if_pos s_1_5]; rfl)
  have ns_1_0 := lv_neT s_1_0 (a := 0) (by decide)
  have ns_1_1 := lv_neT s_1_1 (a := 1) (by decide)
  have ns_1_2 := lv_neT s_1_2 (a := 2) (by decide)
  have ns_1_3 := lv_neT s_1_3 (a := 3) (by decide)
  have ns_1_4 := lv_neT s_1_4 (a := 4) (by decide)
  have ns_1_5 := lv_neT s_1_5 (a := 5) (by decide)
  refine g_tout C 78 dX5_state_1 (by omega) rfl ?_
  refine g_iconst C (-1) dX5_state_78 (by decide) ?_
  exact g_iret C () hr dX5_state_79 (Nat.le_of_ble_eq_true rfl) (Nat.le_of_ble_eq_true rfl) rfl (by unfold R_state; rw [if_neg s_1_0, if_neg s_1_1, if_neg s_1_2, if_neg s_1_3, if_neg s_1_4, if_neg s_1_5])

set_option maxRecDepth 100000 in
set_option maxHeartbeats 4000000 in
theorem k_X5_clappingBehind (l : Launch) (D : va_G) (q : Nat → ClassId) (tt : Nat → Nat) (a : Nat → Nat) (v : MC) (N : Nat) (n : Nat) (hG : Gd (m_s v) N) (hn : n < 2 ^ 31) : MI l D q tt yX5_clappingBehind wsX5_clappingBehind ({ frames := 6, cells := 0, slots := 0, locals := 134 } : Room) [.ref (a 0), .int (nI n)] (mw q a v) (fun (r : Int32) (u : (Nat → Int32) × (Nat → Int32) × (Nat → Int32)) => r = (clS (gosS (m_s v) N n) N)) (fun u => (mw q a ((m_s v), (m_held v), u.1, (m_before v), (m_untried v), (m_isHeld v), (m_tape v), (m_taped v), (m_token v), (m_from v), (m_to v), (m_value v), (m_isWrong v), u.2.1, u.2.2, (m_rows v), (m_rowN v), (m_sortOf v), (m_sizeOf v), (m_numbers v), (m_holdsWhat v), (m_holdsWhich v), (m_holdsMany v), (m_bodies v), (m_ran v), (m_actKind v), (m_actN v), (m_actA v), (m_isParted v)))) 0 0 := by
  refine MI.of RX5 [(0, .ref (a 0)), (1, .int (nI n))] (by decide) rfl rfl (Nat.le_of_ble_eq_true rfl) rfl ?_
  intro p e s m args below meth c A C hr hnm
  have w_0 : ∀ w ∈ u_ws RX5 TX5 29, w ∈ wsX5_clappingBehind := by decide +kernel
  have w_1 : Cond.fieldLink RX5 7 (TX5 0).1 (TX5 0).2.1 (TX5 0).2.2.1 ∈ wsX5_clappingBehind := by decide +kernel
  have w_2 : Cond.fieldLink RX5 16 (TX5 2).1 (TX5 2).2.1 (TX5 2).2.2.1 ∈ wsX5_clappingBehind := by decide +kernel
  have h8 := hG.le
  refine g_aloadn C dX5_clappingBehind_0 0 rfl rfl ?_
  refine g_get C fx5 w_0 0 0 (v := .ref (a 1)) rfl (by decide) w_1 rfl dX5_clappingBehind_1 ?_
  refine g_aloadn C dX5_clappingBehind_4 0 rfl rfl ?_
  refine g_get C fx5 w_0 0 2 (v := .ref (a 3)) rfl (by decide) w_2 rfl dX5_clappingBehind_5 ?_
  refine g_callWv (w1 := (mw q a v)) (wr := ([0, 2, 4, 5, 6, 7, 8, 9, 10, 11, 12, 13, 14, 15, 16] : List Nat).filterMap (fun i => (mw q a v)[i]?)) (isC := [1, 3]) (isR := [0, 2, 4, 5, 6, 7, 8, 9, 10, 11, 12, 13, 14, 15, 16]) (pm := [0, 15, 1, 16, 2, 3, 4, 5, 6, 7, 8, 9, 10, 11, 12, 13, 14]) (w1' := (fun _ => (mw q a ((m_s v), (m_held v), (cp47 (m_s v) (m_aside v)), (m_before v), (m_untried v), (m_isHeld v), (m_tape v), (m_taped v), (m_token v), (m_from v), (m_to v), (m_value v), (m_isWrong v), (m_heard v), (m_isMoved v), (m_rows v), (m_rowN v), (m_sortOf v), (m_sizeOf v), (m_numbers v), (m_holdsWhat v), (m_holdsWhich v), (m_holdsMany v), (m_bodies v), (m_ran v), (m_actKind v), (m_actN v), (m_actA v), (m_isParted v))))) C (rd_S C (k_X5_copyRow l D q tt (a 1) (a 3) (m_s v) (m_aside v) ) gX5_clappingBehind_X5_copyRow rfl rfl rfl 2 ok_X5_copyRow (rest := []) rfl rfl (Nat.le_of_ble_eq_true rfl) dX5_clappingBehind_8 ⟨(Nat.le_of_ble_eq_true rfl), (Nat.le_of_ble_eq_true rfl)⟩ ⟨(Nat.le_of_ble_eq_true rfl), (Nat.le_of_ble_eq_true rfl)⟩) rfl rfl rfl (fun _ => rfl) rfl (fun _ h_8 => ?_)
  refine g_aloadn C dX5_clappingBehind_11 0 rfl rfl ?_
  refine g_iloadn C dX5_clappingBehind_12 1 rfl rfl ?_
  refine g_callAv C (rd_V C (k_X5_goes l D q tt a ((m_s v), (m_held v), (cp47 (m_s v) (m_aside v)), (m_before v), (m_untried v), (m_isHeld v), (m_tape v), (m_taped v), (m_token v), (m_from v), (m_to v), (m_value v), (m_isWrong v), (m_heard v), (m_isMoved v), (m_rows v), (m_rowN v), (m_sortOf v), (m_sizeOf v), (m_numbers v), (m_holdsWhat v), (m_holdsWhich v), (m_holdsMany v), (m_bodies v), (m_ran v), (m_actKind v), (m_actN v), (m_actA v), (m_isParted v)) N n (by first | assumption | omega) (by first | assumption | omega)) gX5_clappingBehind_X5_goes rfl rfl rfl 1 ok_X5_goes rfl 0 rfl rfl (rest := []) rfl rfl (Nat.le_of_ble_eq_true rfl) dX5_clappingBehind_13 ⟨(Nat.le_of_ble_eq_true rfl), (Nat.le_of_ble_eq_true rfl)⟩ ⟨(Nat.le_of_ble_eq_true rfl), (Nat.le_of_ble_eq_true rfl)⟩) (fun u_13 h_13 => ?_)
  refine g_wsc (mw q a ((gosS (m_s v) N n), (m_held v), (cp47 (m_s v) (m_aside v)), (m_before v), (m_untried v), (m_isHeld v), (m_tape v), (m_taped v), (m_token v), (m_from v), (m_to v), (m_value v), (m_isWrong v), u_13.1, u_13.2, (m_rows v), (m_rowN v), (m_sortOf v), (m_sizeOf v), (m_numbers v), (m_holdsWhat v), (m_holdsWhich v), (m_holdsMany v), (m_bodies v), (m_ran v), (m_actKind v), (m_actN v), (m_actA v), (m_isParted v))) rfl ?_
  refine g_aloadn C dX5_clappingBehind_16 0 rfl rfl ?_
  refine g_callAi C (rd_V C (k_X5_clappers l D q tt a ((gosS (m_s v) N n), (m_held v), (cp47 (m_s v) (m_aside v)), (m_before v), (m_untried v), (m_isHeld v), (m_tape v), (m_taped v), (m_token v), (m_from v), (m_to v), (m_value v), (m_isWrong v), u_13.1, u_13.2, (m_rows v), (m_rowN v), (m_sortOf v), (m_sizeOf v), (m_numbers v), (m_holdsWhat v), (m_holdsWhich v), (m_holdsMany v), (m_bodies v), (m_ran v), (m_actKind v), (m_actN v), (m_actA v), (m_isParted v)) N (hG.gos n)) gX5_clappingBehind_X5_clappers rfl rfl rfl 0 ok_X5_clappers rfl 0 rfl rfl (rest := []) rfl rfl (Nat.le_of_ble_eq_true rfl) dX5_clappingBehind_17 ⟨(Nat.le_of_ble_eq_true rfl), (Nat.le_of_ble_eq_true rfl)⟩ ⟨(Nat.le_of_ble_eq_true rfl), (Nat.le_of_ble_eq_true rfl)⟩) (fun r_17 _ h_17 => ?_)
  obtain rfl := h_17
  refine g_topci (clS (gosS (m_s v) N n) N) rfl ?_
  refine g_istoren C [(2, .int (clS (gosS (m_s v) N n) N)), (0, .ref (a 0)), (1, .int (nI n))] dX5_clappingBehind_20 rfl (by decide) rfl ?_
  refine g_aloadn C dX5_clappingBehind_21 1 rfl rfl ?_
  refine g_get C fx5 w_0 0 2 (v := .ref (a 3)) rfl (by decide) w_2 rfl dX5_clappingBehind_22 ?_
  refine g_aloadn C dX5_clappingBehind_25 1 rfl rfl ?_
  refine g_get C fx5 w_0 0 0 (v := .ref (a 1)) rfl (by decide) w_1 rfl dX5_clappingBehind_26 ?_
  refine g_callWv (w1 := (mw q a ((gosS (m_s v) N n), (m_held v), (cp47 (m_s v) (m_aside v)), (m_before v), (m_untried v), (m_isHeld v), (m_tape v), (m_taped v), (m_token v), (m_from v), (m_to v), (m_value v), (m_isWrong v), u_13.1, u_13.2, (m_rows v), (m_rowN v), (m_sortOf v), (m_sizeOf v), (m_numbers v), (m_holdsWhat v), (m_holdsWhich v), (m_holdsMany v), (m_bodies v), (m_ran v), (m_actKind v), (m_actN v), (m_actA v), (m_isParted v)))) (wr := ([0, 2, 4, 5, 6, 7, 8, 9, 10, 11, 12, 13, 14, 15, 16] : List Nat).filterMap (fun i => (mw q a ((gosS (m_s v) N n), (m_held v), (cp47 (m_s v) (m_aside v)), (m_before v), (m_untried v), (m_isHeld v), (m_tape v), (m_taped v), (m_token v), (m_from v), (m_to v), (m_value v), (m_isWrong v), u_13.1, u_13.2, (m_rows v), (m_rowN v), (m_sortOf v), (m_sizeOf v), (m_numbers v), (m_holdsWhat v), (m_holdsWhich v), (m_holdsMany v), (m_bodies v), (m_ran v), (m_actKind v), (m_actN v), (m_actA v), (m_isParted v)))[i]?)) (isC := [3, 1]) (isR := [0, 2, 4, 5, 6, 7, 8, 9, 10, 11, 12, 13, 14, 15, 16]) (pm := [0, 16, 1, 15, 2, 3, 4, 5, 6, 7, 8, 9, 10, 11, 12, 13, 14]) (w1' := (fun _ => (mw q a ((cp47 (cp47 (m_s v) (m_aside v)) (gosS (m_s v) N n)), (m_held v), (cp47 (m_s v) (m_aside v)), (m_before v), (m_untried v), (m_isHeld v), (m_tape v), (m_taped v), (m_token v), (m_from v), (m_to v), (m_value v), (m_isWrong v), u_13.1, u_13.2, (m_rows v), (m_rowN v), (m_sortOf v), (m_sizeOf v), (m_numbers v), (m_holdsWhat v), (m_holdsWhich v), (m_holdsMany v), (m_bodies v), (m_ran v), (m_actKind v), (m_actN v), (m_actA v), (m_isParted v))))) C (rd_S C (k_X5_copyRow l D q tt (a 3) (a 1) (cp47 (m_s v) (m_aside v)) (gosS (m_s v) N n) ) gX5_clappingBehind_X5_copyRow rfl rfl rfl 2 ok_X5_copyRow (rest := []) rfl rfl (Nat.le_of_ble_eq_true rfl) dX5_clappingBehind_29 ⟨(Nat.le_of_ble_eq_true rfl), (Nat.le_of_ble_eq_true rfl)⟩ ⟨(Nat.le_of_ble_eq_true rfl), (Nat.le_of_ble_eq_true rfl)⟩) rfl rfl rfl (fun _ => rfl) rfl (fun _ h_29 => ?_)
  refine g_wsc (mw q a ((m_s v), (m_held v), (cp47 (m_s v) (m_aside v)), (m_before v), (m_untried v), (m_isHeld v), (m_tape v), (m_taped v), (m_token v), (m_from v), (m_to v), (m_value v), (m_isWrong v), u_13.1, u_13.2, (m_rows v), (m_rowN v), (m_sortOf v), (m_sizeOf v), (m_numbers v), (m_holdsWhat v), (m_holdsWhich v), (m_holdsMany v), (m_bodies v), (m_ran v), (m_actKind v), (m_actN v), (m_actA v), (m_isParted v))) (by first | (rw [cp_back (fun k hk => gos_hi hG hk n)]; done) | (rw [cp_back (fun k hk => gos_hi hG hk n)]; rfl)) ?_
  refine g_iloadn C dX5_clappingBehind_32 0 rfl rfl ?_
  exact g_iret C ((cp47 (m_s v) (m_aside v)), u_13.1, u_13.2) hr dX5_clappingBehind_33 (Nat.le_of_ble_eq_true rfl) (Nat.le_of_ble_eq_true rfl) rfl (rfl)

set_option maxRecDepth 100000 in
set_option maxHeartbeats 4000000 in
theorem k_X5_clapping (l : Launch) (D : va_G) (q : Nat → ClassId) (tt : Nat → Nat) (a : Nat → Nat) (v : MC) (N : Nat) (x : Int32) (hG : Gd (m_s v) N) : MI l D q tt yX5_clapping wsX5_clapping ({ frames := 7, cells := 0, slots := 0, locals := 156 } : Room) [.ref (a 0), .int x] (mw q a v) (fun (r : Int32) (u : (Nat → Int32) × (Nat → Int32) × (Nat → Int32)) => r = R_clapping (m_s v) N x) (fun u => (mw q a ((m_s v), (m_held v), u.1, (m_before v), (m_untried v), (m_isHeld v), (m_tape v), (m_taped v), (m_token v), (m_from v), (m_to v), (m_value v), (m_isWrong v), u.2.1, u.2.2, (m_rows v), (m_rowN v), (m_sortOf v), (m_sizeOf v), (m_numbers v), (m_holdsWhat v), (m_holdsWhich v), (m_holdsMany v), (m_bodies v), (m_ran v), (m_actKind v), (m_actN v), (m_actA v), (m_isParted v)))) 0 0 := by
  refine MI.of RX5 [(0, .ref (a 0)), (1, .int x)] (by decide) rfl rfl (Nat.le_of_ble_eq_true rfl) rfl ?_
  intro p e s m args below meth c A C hr hnm
  have w_0 : Cond.constantLong RX5 201 (60) ∈ wsX5_clapping := by decide +kernel
  have h8 := hG.le
  refine g_iloadn C dX5_clapping_0 1 rfl rfl ?_
  refine g_i2l C dX5_clapping_1 ?_
  refine g_lconst C 0 dX5_clapping_2 (by decide) ?_
  refine g_ldc2 C (60) dX5_clapping_3 w_0 ?_
  refine g_call0i C (rd_S C (k_isIn32 l D q tt (x) 0 (60) 0 (60) (by first | rfl | decide) (by first | rfl | decide)) gX5_clapping_X5_isIn rfl rfl rfl 3 ok_X5_isIn (rest := []) rfl rfl (Nat.le_of_ble_eq_true rfl) dX5_clapping_6 ⟨(Nat.le_of_ble_eq_true rfl), (Nat.le_of_ble_eq_true rfl)⟩ ⟨(Nat.le_of_ble_eq_true rfl), (Nat.le_of_ble_eq_true rfl)⟩) (fun _ => rfl) (fun r_6 _ h_6 => ?_)
  obtain rfl := h_6
  refine g_ifeqE C 20 dX5_clapping_9 rfl rfl (fun c_9 => ?_) (fun c_9 => ?_)
  · refine g_iconst C (-1) dX5_clapping_20 (by decide) ?_
    exact g_iret C ((m_aside v), (m_heard v), (m_isMoved v)) hr dX5_clapping_21 (Nat.le_of_ble_eq_true rfl) (Nat.le_of_ble_eq_true rfl) rfl (by unfold R_clapping; (repeat' split) <;> first | rfl | exact ⟨rfl, rfl⟩ | (rw [ec]; done) | (rw [ec]; exact ⟨rfl, rfl⟩) | (rw [ec]; rfl) | (exfalso; simp only [lg_lt0, lg_gt0, w_le, w_lt, Int32.lt_iff_toInt_lt, Int32.le_iff_toInt_le, ← Int32.toInt_inj, tI_0, tI_1, tI_2, tI_3, tI_4, tI_5, tI_6, tI_7, tI_8, tI_9, tI_10, tI_13, tI_19, tI_20, tI_30, tI_32, tI_40, tI_48, tI_57, tI_59, tI_60, tI_97, tI_99, tI_100, tI_122, tI_200, tI_m1, tI_m2, tI_m3, tI_39, not_and, not_or] at * <;> omega))
  · obtain ⟨j, hj, ej, ec⟩ := ix_le (n := 60) (by omega) c_9
    refine g_aloadn C dX5_clapping_12 0 rfl rfl ?_
    refine g_iloadn C dX5_clapping_13 1 rfl rfl ?_
    refine g_topci (nI j) (ej) ?_
    refine g_callAi C (rd_V C (k_X5_clappingBehind l D q tt a v N j (by first | assumption | omega) (by first | assumption | omega)) gX5_clapping_X5_clappingBehind rfl rfl rfl 1 ok_X5_clappingBehind rfl 0 rfl rfl (rest := []) rfl rfl (Nat.le_of_ble_eq_true rfl) dX5_clapping_14 ⟨(Nat.le_of_ble_eq_true rfl), (Nat.le_of_ble_eq_true rfl)⟩ ⟨(Nat.le_of_ble_eq_true rfl), (Nat.le_of_ble_eq_true rfl)⟩) (fun r_14 u_14 h_14 => ?_)
    obtain rfl := h_14
    refine g_goto C 21 dX5_clapping_17 rfl ?_
    exact g_iret C (u_14.1, u_14.2.1, u_14.2.2) hr dX5_clapping_21 (Nat.le_of_ble_eq_true rfl) (Nat.le_of_ble_eq_true rfl) rfl (by unfold R_clapping; (repeat' split) <;> first | rfl | exact ⟨rfl, rfl⟩ | (rw [ec]; done) | (rw [ec]; exact ⟨rfl, rfl⟩) | (rw [ec]; rfl) | (exfalso; simp only [lg_lt0, lg_gt0, w_le, w_lt, Int32.lt_iff_toInt_lt, Int32.le_iff_toInt_le, ← Int32.toInt_inj, tI_0, tI_1, tI_2, tI_3, tI_4, tI_5, tI_6, tI_7, tI_8, tI_9, tI_10, tI_13, tI_19, tI_20, tI_30, tI_32, tI_40, tI_48, tI_57, tI_59, tI_60, tI_97, tI_99, tI_100, tI_122, tI_200, tI_m1, tI_m2, tI_m3, tI_39, not_and, not_or] at * <;> omega))

