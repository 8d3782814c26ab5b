set_option maxRecDepth 100000 in
set_option maxHeartbeats 4000000 in
theorem k_X5_prove (l : Launch) (D : va_G) (q : Nat → ClassId) (tt : Nat → Nat) (a : Nat → Nat) (v : MC) (N : Nat) (x : Int32) (y : Int32) (hG : Gd (m_s v) N) : MI l D q tt yX5_prove wsX5_prove ({ frames := 5, cells := 0, slots := 0, locals := 112 } : Room) [.ref (a 0), .int x, .int y] (mw q a v) (fun (r : Int32) (u : (Nat → Int32) × (Nat → Int32) × (Nat → Int32) × (Nat → Int32) × Int32) => r = R_prove (m_s v) x y ∧ u.2.2.2.1 = Q_prove (m_s v) N (m_rows v) x y ∧ u.2.2.2.2 = C_prove (m_s v) (m_rowN v) x y) (fun u => (mw q a ((m_s v), (m_held v), u.1, (m_before v), (m_untried v), (m_isHeld v), (m_tape v), (m_taped v), (m_token v), (m_from v), (m_to v), (m_value v), (m_isWrong v), u.2.1, u.2.2.1, u.2.2.2.1, u.2.2.2.2, (m_sortOf v), (m_sizeOf v), (m_numbers v), (m_holdsWhat v), (m_holdsWhich v), (m_holdsMany v), (m_bodies v), (m_ran v), (m_actKind v), (m_actN v), (m_actA v), (m_isParted v)))) 0 0 := by
  refine MI.of RX5 [(0, .ref (a 0)), (1, .int x), (2, .int y)] (by decide) rfl rfl (Nat.le_of_ble_eq_true rfl) rfl ?_
  intro p e s m args below meth c A C hr hnm
  have w_0 : Cond.constantLong RX5 267 (10) ∈ wsX5_prove := by decide +kernel
  have w_1 : ∀ w ∈ u_ws RX5 TX5 29, w ∈ wsX5_prove := by decide +kernel
  have w_2 : Cond.fieldLink RX5 7 (TX5 0).1 (TX5 0).2.1 (TX5 0).2.2.1 ∈ wsX5_prove := by decide +kernel
  have w_3 : Cond.fieldLink RX5 16 (TX5 2).1 (TX5 2).2.1 (TX5 2).2.2.1 ∈ wsX5_prove := by decide +kernel
  have w_4 : Cond.fieldLink RX5 149 (TX5 16).1 (TX5 16).2.1 (TX5 16).2.2.1 ∈ wsX5_prove := by decide +kernel
  have w_5 : Cond.fieldLink RX5 35 (TX5 15).1 (TX5 15).2.1 (TX5 15).2.2.1 ∈ wsX5_prove := by decide +kernel
  have h8 := hG.le
  refine g_aloadn C dX5_prove_0 0 rfl rfl ?_
  refine g_iloadn C dX5_prove_1 1 rfl rfl ?_
  refine g_callAi C (rd_V C (k_X5_isOne l D q tt a v x ) gX5_prove_X5_isOne rfl rfl rfl 1 ok_X5_isOne rfl 0 rfl rfl (rest := []) rfl rfl (Nat.le_of_ble_eq_true rfl) dX5_prove_2 ⟨(Nat.le_of_ble_eq_true rfl), (Nat.le_of_ble_eq_true rfl)⟩ ⟨(Nat.le_of_ble_eq_true rfl), (Nat.le_of_ble_eq_true rfl)⟩) (fun r_2 _ h_2 => ?_)
  obtain rfl := h_2
  refine g_ifeqE C 20 dX5_prove_5 rfl rfl (fun c_5 => ?_) (fun c_5 => ?_)
  · refine g_iconst C (-1) dX5_prove_20 (by decide) ?_
    exact g_iret C ((m_aside v), (m_heard v), (m_isMoved v), (m_rows v), (m_rowN v)) hr dX5_prove_21 (Nat.le_of_ble_eq_true rfl) (Nat.le_of_ble_eq_true rfl) rfl (by unfold R_prove Q_prove C_prove; rw [if_neg (fun z => by first | exact c_5 z.1 | exact c_17 z.2), if_neg (fun z => by first | exact c_5 z.1 | exact c_17 z.2), if_neg (fun z => by first | exact c_5 z.1 | exact c_17 z.2)]; exact ⟨rfl, rfl, rfl⟩)
  · refine g_iloadn C dX5_prove_8 2 rfl rfl ?_
    refine g_i2l C dX5_prove_9 ?_
    refine g_lconst C 1 dX5_prove_10 (by decide) ?_
    refine g_ldc2 C (10) dX5_prove_11 w_0 ?_
    refine g_call0i C (rd_S C (k_isIn32 l D q tt (y) 1 (10) 1 (10) (by first | rfl | decide) (by first | rfl | decide)) gX5_prove_X5_isIn rfl rfl rfl 3 ok_X5_isIn (rest := []) rfl rfl (Nat.le_of_ble_eq_true rfl) dX5_prove_14 ⟨(Nat.le_of_ble_eq_true rfl), (Nat.le_of_ble_eq_true rfl)⟩ ⟨(Nat.le_of_ble_eq_true rfl), (Nat.le_of_ble_eq_true rfl)⟩) (fun _ => rfl) (fun r_14 _ h_14 => ?_)
    obtain rfl := h_14
    refine g_ifneE C 22 dX5_prove_17 rfl rfl (fun c_17 => ?_) (fun c_17 => ?_)
    · obtain ⟨j, hj, ej, ec⟩ := ix_one hG c_5
      obtain ⟨n, hn, en, ed⟩ := ix_le (n := 10) (by omega) ⟨Int32.le_trans (by decide) c_17.1, c_17.2⟩
      refine g_aloadn C dX5_prove_22 0 rfl rfl ?_
      refine g_get C fx5 w_1 0 0 (v := .ref (a 1)) rfl (by decide) w_2 rfl dX5_prove_23 ?_
      refine g_aloadn C dX5_prove_26 0 rfl rfl ?_
      refine g_get C fx5 w_1 0 2 (v := .ref (a 3)) rfl (by decide) w_3 rfl dX5_prove_27 ?_
      refine g_callWv (w1 := (mw q a v)) (wr := ([0, 2, 4, 5, 6, 7, 8, 9, 10, 11, 12, 13, 14, 15, 16] : List Nat).filterMap (fun i => (mw q a v)[i]?)) (isC := [1, 3]) (isR := [0, 2, 4, 5, 6, 7, 8, 9, 10, 11, 12, 13, 14, 15, 16]) (pm := [0, 15, 1, 16, 2, 3, 4, 5, 6, 7, 8, 9, 10, 11, 12, 13, 14]) (w1' := (fun _ => (mw q a ((m_s v), (m_held v), (cp47 (m_s v) (m_aside v)), (m_before v), (m_untried v), (m_isHeld v), (m_tape v), (m_taped v), (m_token v), (m_from v), (m_to v), (m_value v), (m_isWrong v), (m_heard v), (m_isMoved v), (m_rows v), (m_rowN v), (m_sortOf v), (m_sizeOf v), (m_numbers v), (m_holdsWhat v), (m_holdsWhich v), (m_holdsMany v), (m_bodies v), (m_ran v), (m_actKind v), (m_actN v), (m_actA v), (m_isParted v))))) C (rd_S C (k_X5_copyRow l D q tt (a 1) (a 3) (m_s v) (m_aside v) ) gX5_prove_X5_copyRow rfl rfl rfl 2 ok_X5_copyRow (rest := []) rfl rfl (Nat.le_of_ble_eq_true rfl) dX5_prove_30 ⟨(Nat.le_of_ble_eq_true rfl), (Nat.le_of_ble_eq_true rfl)⟩ ⟨(Nat.le_of_ble_eq_true rfl), (Nat.le_of_ble_eq_true rfl)⟩) rfl rfl rfl (fun _ => rfl) rfl (fun _ h_30 => ?_)
      refine g_iconst C 0 dX5_prove_33 (by decide) ?_
      refine g_istoren C [(3, .int 0), (0, .ref (a 0)), (1, .int x), (2, .int y)] dX5_prove_34 rfl (by decide) rfl ?_
      have J_35 : ∀ (fu : Nat) (i : Nat) (hd : Nat → Int32) (mv : Nat → Int32), n - i < fu → (i ≤ n) → G p l e ({ frames := 5, cells := 0, slots := 0, locals := 112 } : Room) s m args below meth c 4 D A (MQ below (va_Qi (fun (r : Int32) (u : (Nat → Int32) × (Nat → Int32) × (Nat → Int32) × (Nat → Int32) × Int32) => r = R_prove (m_s v) x y ∧ u.2.2.2.1 = Q_prove (m_s v) N (m_rows v) x y ∧ u.2.2.2.2 = C_prove (m_s v) (m_rowN v) x y) (Bw D A (fun u => (mw q a ((m_s v), (m_held v), u.1, (m_before v), (m_untried v), (m_isHeld v), (m_tape v), (m_taped v), (m_token v), (m_from v), (m_to v), (m_value v), (m_isWrong v), u.2.1, u.2.2.1, u.2.2.2.1, u.2.2.2.2, (m_sortOf v), (m_sizeOf v), (m_numbers v), (m_holdsWhat v), (m_holdsWhich v), (m_holdsMany v), (m_bodies v), (m_ran v), (m_actKind v), (m_actN v), (m_actA v), (m_isParted v))))) A) args s 0 0 A) 35 [(0, .ref (a 0)), (1, .int x), (2, .int y), (3, .int (nI i))] [] (mw q a ((gosS (m_s v) N i), (m_held v), (cp47 (m_s v) (m_aside v)), (m_before v), (m_untried v), (m_isHeld v), (m_tape v), (m_taped v), (m_token v), (m_from v), (m_to v), (m_value v), (m_isWrong v), hd, mv, (prR (m_s v) N j (m_rows v) i), (m_rowN v), (m_sortOf v), (m_sizeOf v), (m_numbers v), (m_holdsWhat v), (m_holdsWhich v), (m_holdsMany v), (m_bodies v), (m_ran v), (m_actKind v), (m_actN v), (m_actA v), (m_isParted v))) 0 0 := by
        intro fu
        induction fu with
        | zero =>
          intro i hd mv hfu
          exact absurd hfu (Nat.not_lt_zero _)
        | succ fu ih =>
          intro i hd mv hfu hi
          refine g_iloadn C dX5_prove_35 3 rfl rfl ?_
          refine g_iloadn C dX5_prove_36 2 rfl rfl ?_
          refine g_topci (nI n) (en) ?_
          refine g_icmpN_ge C 94 (i) (n) dX5_prove_37 rfl (by omega) (by omega) (fun c_37 => ?_) (fun c_37 => ?_)
          · refine g_aloadn C dX5_prove_94 0 rfl rfl ?_
            refine g_get C fx5 w_1 0 2 (v := .ref (a 3)) rfl (by decide) w_3 rfl dX5_prove_95 ?_
            refine g_aloadn C dX5_prove_98 0 rfl rfl ?_
            refine g_get C fx5 w_1 0 0 (v := .ref (a 1)) rfl (by decide) w_2 rfl dX5_prove_99 ?_
            refine g_callWv (w1 := (mw q a ((gosS (m_s v) N i), (m_held v), (cp47 (m_s v) (m_aside v)), (m_before v), (m_untried v), (m_isHeld v), (m_tape v), (m_taped v), (m_token v), (m_from v), (m_to v), (m_value v), (m_isWrong v), hd, mv, (prR (m_s v) N j (m_rows v) i), (m_rowN v), (m_sortOf v), (m_sizeOf v), (m_numbers v), (m_holdsWhat v), (m_holdsWhich v), (m_holdsMany v), (m_bodies v), (m_ran v), (m_actKind v), (m_actN v), (m_actA v), (m_isParted v)))) (wr := ([0, 2, 4, 5, 6, 7, 8, 9, 10, 11, 12, 13, 14, 15, 16] : List Nat).filterMap (fun ix_ => (mw q a ((gosS (m_s v) N i), (m_held v), (cp47 (m_s v) (m_aside v)), (m_before v), (m_untried v), (m_isHeld v), (m_tape v), (m_taped v), (m_token v), (m_from v), (m_to v), (m_value v), (m_isWrong v), hd, mv, (prR (m_s v) N j (m_rows v) i), (m_rowN v), (m_sortOf v), (m_sizeOf v), (m_numbers v), (m_holdsWhat v), (m_holdsWhich v), (m_holdsMany v), (m_bodies v), (m_ran v), (m_actKind v), (m_actN v), (m_actA v), (m_isParted v)))[ix_]?)) (isC := [3, 1]) (isR := [0, 2, 4, 5, 6, 7, 8, 9, 10, 11, 12, 13, 14, 15, 16]) (pm := [0, 16, 1, 15, 2, 3, 4, 5, 6, 7, 8, 9, 10, 11, 12, 13, 14]) (w1' := (fun _ => (mw q a ((cp47 (cp47 (m_s v) (m_aside v)) (gosS (m_s v) N i)), (m_held v), (cp47 (m_s v) (m_aside v)), (m_before v), (m_untried v), (m_isHeld v), (m_tape v), (m_taped v), (m_token v), (m_from v), (m_to v), (m_value v), (m_isWrong v), hd, mv, (prR (m_s v) N j (m_rows v) i), (m_rowN v), (m_sortOf v), (m_sizeOf v), (m_numbers v), (m_holdsWhat v), (m_holdsWhich v), (m_holdsMany v), (m_bodies v), (m_ran v), (m_actKind v), (m_actN v), (m_actA v), (m_isParted v))))) C (rd_S C (k_X5_copyRow l D q tt (a 3) (a 1) (cp47 (m_s v) (m_aside v)) (gosS (m_s v) N i) ) gX5_prove_X5_copyRow rfl rfl rfl 2 ok_X5_copyRow (rest := []) rfl rfl (Nat.le_of_ble_eq_true rfl) dX5_prove_102 ⟨(Nat.le_of_ble_eq_true rfl), (Nat.le_of_ble_eq_true rfl)⟩ ⟨(Nat.le_of_ble_eq_true rfl), (Nat.le_of_ble_eq_true rfl)⟩) rfl rfl rfl (fun _ => rfl) rfl (fun _ h_102 => ?_)
            refine g_wsc (mw q a ((m_s v), (m_held v), (cp47 (m_s v) (m_aside v)), (m_before v), (m_untried v), (m_isHeld v), (m_tape v), (m_taped v), (m_token v), (m_from v), (m_to v), (m_value v), (m_isWrong v), hd, mv, (prR (m_s v) N j (m_rows v) i), (m_rowN v), (m_sortOf v), (m_sizeOf v), (m_numbers v), (m_holdsWhat v), (m_holdsWhich v), (m_holdsMany v), (m_bodies v), (m_ran v), (m_actKind v), (m_actN v), (m_actA v), (m_isParted v))) (by first | (rw [cp_back (fun k hk => gos_hi hG hk i)]; done) | (rw [cp_back (fun k hk => gos_hi hG hk i)]; rfl)) ?_
            refine g_aloadn C dX5_prove_105 0 rfl rfl ?_
            refine g_iloadn C dX5_prove_106 2 rfl rfl ?_
            refine g_put C fx5 w_1 0 16 rfl (by decide) w_4 rfl rfl rfl (Nat.le_of_ble_eq_true rfl) dX5_prove_107 (mw q a ((m_s v), (m_held v), (cp47 (m_s v) (m_aside v)), (m_before v), (m_untried v), (m_isHeld v), (m_tape v), (m_taped v), (m_token v), (m_from v), (m_to v), (m_value v), (m_isWrong v), hd, mv, (prR (m_s v) N j (m_rows v) i), y, (m_sortOf v), (m_sizeOf v), (m_numbers v), (m_holdsWhat v), (m_holdsWhich v), (m_holdsMany v), (m_bodies v), (m_ran v), (m_actKind v), (m_actN v), (m_actA v), (m_isParted v))) (by dsimp only [mw, List.set, m_s, m_held, m_aside, m_before, m_untried, m_isHeld, m_tape, m_taped, m_token, m_from, m_to, m_value, m_isWrong, m_heard, m_isMoved, m_rows, m_rowN, m_sortOf, m_sizeOf, m_numbers, m_holdsWhat, m_holdsWhich, m_holdsMany, m_bodies, m_ran, m_actKind, m_actN, m_actA, m_isParted]) ?_
            refine g_iloadn C dX5_prove_110 2 rfl rfl ?_
            exact g_iret C ((cp47 (m_s v) (m_aside v)), hd, mv, (prR (m_s v) N j (m_rows v) i), y) hr dX5_prove_111 (Nat.le_of_ble_eq_true rfl) (Nat.le_of_ble_eq_true rfl) rfl (by unfold R_prove Q_prove C_prove; rw [if_pos ⟨c_5, c_17⟩, if_pos ⟨c_5, c_17⟩, if_pos ⟨c_5, c_17⟩, ec, ed, show i = n by omega]; exact ⟨rfl, rfl, rfl⟩)
          · refine g_aloadn C dX5_prove_40 0 rfl rfl ?_
            refine g_callAv C (rd_V C (k_X5_goesOn l D q tt a ((gosS (m_s v) N i), (m_held v), (cp47 (m_s v) (m_aside v)), (m_before v), (m_untried v), (m_isHeld v), (m_tape v), (m_taped v), (m_token v), (m_from v), (m_to v), (m_value v), (m_isWrong v), hd, mv, (prR (m_s v) N j (m_rows v) i), (m_rowN v), (m_sortOf v), (m_sizeOf v), (m_numbers v), (m_holdsWhat v), (m_holdsWhich v), (m_holdsMany v), (m_bodies v), (m_ran v), (m_actKind v), (m_actN v), (m_actA v), (m_isParted v)) N (hG.gos i)) gX5_prove_X5_goesOn rfl rfl rfl 0 ok_X5_goesOn rfl 0 rfl rfl (rest := []) rfl rfl (Nat.le_of_ble_eq_true rfl) dX5_prove_41 ⟨(Nat.le_of_ble_eq_true rfl), (Nat.le_of_ble_eq_true rfl)⟩ ⟨(Nat.le_of_ble_eq_true rfl), (Nat.le_of_ble_eq_true rfl)⟩) (fun u_41 h_41 => ?_)
            refine g_wsc (mw q a ((goS (gosS (m_s v) N i) N), (m_held v), (cp47 (m_s v) (m_aside v)), (m_before v), (m_untried v), (m_isHeld v), (m_tape v), (m_taped v), (m_token v), (m_from v), (m_to v), (m_value v), (m_isWrong v), u_41.1, u_41.2, (prR (m_s v) N j (m_rows v) i), (m_rowN v), (m_sortOf v), (m_sizeOf v), (m_numbers v), (m_holdsWhat v), (m_holdsWhich v), (m_holdsMany v), (m_bodies v), (m_ran v), (m_actKind v), (m_actN v), (m_actA v), (m_isParted v))) rfl ?_
            refine g_wsc (mw q a ((gosS (m_s v) N (i + 1)), (m_held v), (cp47 (m_s v) (m_aside v)), (m_before v), (m_untried v), (m_isHeld v), (m_tape v), (m_taped v), (m_token v), (m_from v), (m_to v), (m_value v), (m_isWrong v), u_41.1, u_41.2, (prR (m_s v) N j (m_rows v) i), (m_rowN v), (m_sortOf v), (m_sizeOf v), (m_numbers v), (m_holdsWhat v), (m_holdsWhich v), (m_holdsMany v), (m_bodies v), (m_ran v), (m_actKind v), (m_actN v), (m_actA v), (m_isParted v))) (rfl) ?_
            refine g_aloadn C dX5_prove_44 0 rfl rfl ?_
            refine g_get C fx5 w_1 0 15 (v := .ref (a 9)) rfl (by decide) w_5 rfl dX5_prove_45 ?_
            refine g_iconst C 3 dX5_prove_48 (by decide) ?_
            refine g_iloadn C dX5_prove_49 3 rfl rfl ?_
            refine g_imul C dX5_prove_50 ?_
            refine g_aloadn C dX5_prove_51 0 rfl rfl ?_
            refine g_iloadn C dX5_prove_52 1 rfl rfl ?_
            refine g_topci (nI j) (ej) ?_
            refine g_iconst C 1 dX5_prove_53 (by decide) ?_
            refine g_callAi C (rd_V C (k_X5_its l D q tt a ((gosS (m_s v) N (i + 1)), (m_held v), (cp47 (m_s v) (m_aside v)), (m_before v), (m_untried v), (m_isHeld v), (m_tape v), (m_taped v), (m_token v), (m_from v), (m_to v), (m_value v), (m_isWrong v), u_41.1, u_41.2, (prR (m_s v) N j (m_rows v) i), (m_rowN v), (m_sortOf v), (m_sizeOf v), (m_numbers v), (m_holdsWhat v), (m_holdsWhich v), (m_holdsMany v), (m_bodies v), (m_ran v), (m_actKind v), (m_actN v), (m_actA v), (m_isParted v)) j 1 (by first | assumption | omega) (by first | assumption | omega)) gX5_prove_X5_its rfl rfl rfl 2 ok_X5_its rfl 0 rfl rfl (rest := [.int (3 * (nI i)), .ref (a 9)]) rfl rfl (Nat.le_of_ble_eq_true rfl) dX5_prove_54 ⟨(Nat.le_of_ble_eq_true rfl), (Nat.le_of_ble_eq_true rfl)⟩ ⟨(Nat.le_of_ble_eq_true rfl), (Nat.le_of_ble_eq_true rfl)⟩) (fun r_54 _ h_54 => ?_)
            obtain rfl := h_54
            refine g_topci ((gosS (m_s v) N (i + 1)) (7 + 5 * j + 1)) rfl ?_
            refine g_iast C 9 ((3 * i)) (f := (prR (m_s v) N j (m_rows v) i)) rfl (ix_mul rfl rfl) (by omega) (by decide) dX5_prove_57 (mw q a ((gosS (m_s v) N (i + 1)), (m_held v), (cp47 (m_s v) (m_aside v)), (m_before v), (m_untried v), (m_isHeld v), (m_tape v), (m_taped v), (m_token v), (m_from v), (m_to v), (m_value v), (m_isWrong v), u_41.1, u_41.2, (upd (prR (m_s v) N j (m_rows v) i) (3 * i) ((gosS (m_s v) N (i + 1)) (7 + 5 * j + 1))), (m_rowN v), (m_sortOf v), (m_sizeOf v), (m_numbers v), (m_holdsWhat v), (m_holdsWhich v), (m_holdsMany v), (m_bodies v), (m_ran v), (m_actKind v), (m_actN v), (m_actA v), (m_isParted v))) rfl ?_
            refine g_aloadn C dX5_prove_58 0 rfl rfl ?_
            refine g_get C fx5 w_1 0 15 (v := .ref (a 9)) rfl (by decide) w_5 rfl dX5_prove_59 ?_
            refine g_iconst C 3 dX5_prove_62 (by decide) ?_
            refine g_iloadn C dX5_prove_63 3 rfl rfl ?_
            refine g_imul C dX5_prove_64 ?_
            refine g_iconst C 1 dX5_prove_65 (by decide) ?_
            refine g_iadd C dX5_prove_66 ?_
            refine g_aloadn C dX5_prove_67 0 rfl rfl ?_
            refine g_iloadn C dX5_prove_68 1 rfl rfl ?_
            refine g_topci (nI j) (ej) ?_
            refine g_iconst C 4 dX5_prove_69 (by decide) ?_
            refine g_callAi C (rd_V C (k_X5_its l D q tt a ((gosS (m_s v) N (i + 1)), (m_held v), (cp47 (m_s v) (m_aside v)), (m_before v), (m_untried v), (m_isHeld v), (m_tape v), (m_taped v), (m_token v), (m_from v), (m_to v), (m_value v), (m_isWrong v), u_41.1, u_41.2, (upd (prR (m_s v) N j (m_rows v) i) (3 * i) ((gosS (m_s v) N (i + 1)) (7 + 5 * j + 1))), (m_rowN v), (m_sortOf v), (m_sizeOf v), (m_numbers v), (m_holdsWhat v), (m_holdsWhich v), (m_holdsMany v), (m_bodies v), (m_ran v), (m_actKind v), (m_actN v), (m_actA v), (m_isParted v)) j 4 (by first | assumption | omega) (by first | assumption | omega)) gX5_prove_X5_its rfl rfl rfl 2 ok_X5_its rfl 0 rfl rfl (rest := [.int ((3 * (nI i)) + 1), .ref (a 9)]) rfl rfl (Nat.le_of_ble_eq_true rfl) dX5_prove_70 ⟨(Nat.le_of_ble_eq_true rfl), (Nat.le_of_ble_eq_true rfl)⟩ ⟨(Nat.le_of_ble_eq_true rfl), (Nat.le_of_ble_eq_true rfl)⟩) (fun r_70 _ h_70 => ?_)
            obtain rfl := h_70
            refine g_topci ((gosS (m_s v) N (i + 1)) (7 + 5 * j + 4)) rfl ?_
            refine g_iast C 9 (((3 * i) + 1)) (f := (upd (prR (m_s v) N j (m_rows v) i) (3 * i) ((gosS (m_s v) N (i + 1)) (7 + 5 * j + 1)))) rfl (ix_add (ix_mul rfl rfl) rfl) (by omega) (by decide) dX5_prove_73 (mw q a ((gosS (m_s v) N (i + 1)), (m_held v), (cp47 (m_s v) (m_aside v)), (m_before v), (m_untried v), (m_isHeld v), (m_tape v), (m_taped v), (m_token v), (m_from v), (m_to v), (m_value v), (m_isWrong v), u_41.1, u_41.2, (upd (upd (prR (m_s v) N j (m_rows v) i) (3 * i) ((gosS (m_s v) N (i + 1)) (7 + 5 * j + 1))) ((3 * i) + 1) ((gosS (m_s v) N (i + 1)) (7 + 5 * j + 4))), (m_rowN v), (m_sortOf v), (m_sizeOf v), (m_numbers v), (m_holdsWhat v), (m_holdsWhich v), (m_holdsMany v), (m_bodies v), (m_ran v), (m_actKind v), (m_actN v), (m_actA v), (m_isParted v))) rfl ?_
            refine g_aloadn C dX5_prove_74 0 rfl rfl ?_
            refine g_get C fx5 w_1 0 15 (v := .ref (a 9)) rfl (by decide) w_5 rfl dX5_prove_75 ?_
            refine g_iconst C 3 dX5_prove_78 (by decide) ?_
            refine g_iloadn C dX5_prove_79 3 rfl rfl ?_
            refine g_imul C dX5_prove_80 ?_
            refine g_iconst C 2 dX5_prove_81 (by decide) ?_
            refine g_iadd C dX5_prove_82 ?_
            refine g_aloadn C dX5_prove_83 0 rfl rfl ?_
            refine g_callAi C (rd_V C (k_X5_clappers l D q tt a ((gosS (m_s v) N (i + 1)), (m_held v), (cp47 (m_s v) (m_aside v)), (m_before v), (m_untried v), (m_isHeld v), (m_tape v), (m_taped v), (m_token v), (m_from v), (m_to v), (m_value v), (m_isWrong v), u_41.1, u_41.2, (upd (upd (prR (m_s v) N j (m_rows v) i) (3 * i) ((gosS (m_s v) N (i + 1)) (7 + 5 * j + 1))) ((3 * i) + 1) ((gosS (m_s v) N (i + 1)) (7 + 5 * j + 4))), (m_rowN v), (m_sortOf v), (m_sizeOf v), (m_numbers v), (m_holdsWhat v), (m_holdsWhich v), (m_holdsMany v), (m_bodies v), (m_ran v), (m_actKind v), (m_actN v), (m_actA v), (m_isParted v)) N (hG.gos (i + 1))) gX5_prove_X5_clappers rfl rfl rfl 0 ok_X5_clappers rfl 0 rfl rfl (rest := [.int ((3 * (nI i)) + 2), .ref (a 9)]) rfl rfl (Nat.le_of_ble_eq_true rfl) dX5_prove_84 ⟨(Nat.le_of_ble_eq_true rfl), (Nat.le_of_ble_eq_true rfl)⟩ ⟨(Nat.le_of_ble_eq_true rfl), (Nat.le_of_ble_eq_true rfl)⟩) (fun r_84 _ h_84 => ?_)
            obtain rfl := h_84
            refine g_topci (clS (gosS (m_s v) N (i + 1)) N) rfl ?_
            refine g_iast C 9 (((3 * i) + 2)) (f := (upd (upd (prR (m_s v) N j (m_rows v) i) (3 * i) ((gosS (m_s v) N (i + 1)) (7 + 5 * j + 1))) ((3 * i) + 1) ((gosS (m_s v) N (i + 1)) (7 + 5 * j + 4)))) rfl (ix_add (ix_mul rfl rfl) rfl) (by omega) (by decide) dX5_prove_87 (mw q a ((gosS (m_s v) N (i + 1)), (m_held v), (cp47 (m_s v) (m_aside v)), (m_before v), (m_untried v), (m_isHeld v), (m_tape v), (m_taped v), (m_token v), (m_from v), (m_to v), (m_value v), (m_isWrong v), u_41.1, u_41.2, (upd (upd (upd (prR (m_s v) N j (m_rows v) i) (3 * i) ((gosS (m_s v) N (i + 1)) (7 + 5 * j + 1))) ((3 * i) + 1) ((gosS (m_s v) N (i + 1)) (7 + 5 * j + 4))) ((3 * i) + 2) (clS (gosS (m_s v) N (i + 1)) N)), (m_rowN v), (m_sortOf v), (m_sizeOf v), (m_numbers v), (m_holdsWhat v), (m_holdsWhich v), (m_holdsMany v), (m_bodies v), (m_ran v), (m_actKind v), (m_actN v), (m_actA v), (m_isParted v))) rfl ?_
            refine g_wsc (mw q a ((gosS (m_s v) N (i + 1)), (m_held v), (cp47 (m_s v) (m_aside v)), (m_before v), (m_untried v), (m_isHeld v), (m_tape v), (m_taped v), (m_token v), (m_from v), (m_to v), (m_value v), (m_isWrong v), u_41.1, u_41.2, (prR (m_s v) N j (m_rows v) (i + 1)), (m_rowN v), (m_sortOf v), (m_sizeOf v), (m_numbers v), (m_holdsWhat v), (m_holdsWhich v), (m_holdsMany v), (m_bodies v), (m_ran v), (m_actKind v), (m_actN v), (m_actA v), (m_isParted v))) (by rw [pr_step]) ?_
            refine g_iinc C (nI (i + 1)) [(3, .int (nI (i + 1))), (0, .ref (a 0)), (1, .int x), (2, .int y)] dX5_prove_88 3 rfl (nI_add i 1) (by decide) rfl ?_
            refine g_goto C 35 dX5_prove_91 rfl ?_
            refine g_sub [1, 2, 3, 0] (lv' := [(0, .ref (a 0)), (1, .int x), (2, .int y), (3, .int (nI (i + 1)))]) rfl ?_
            exact ih ((i + 1)) (u_41.1) (u_41.2) (by omega) (by first | assumption | omega)
      refine g_wsc (mw q a ((gosS (m_s v) N 0), (m_held v), (cp47 (m_s v) (m_aside v)), (m_before v), (m_untried v), (m_isHeld v), (m_tape v), (m_taped v), (m_token v), (m_from v), (m_to v), (m_value v), (m_isWrong v), (m_heard v), (m_isMoved v), (m_rows v), (m_rowN v), (m_sortOf v), (m_sizeOf v), (m_numbers v), (m_holdsWhat v), (m_holdsWhich v), (m_holdsMany v), (m_bodies v), (m_ran v), (m_actKind v), (m_actN v), (m_actA v), (m_isParted v))) (rfl) ?_
      refine g_wsc (mw q a ((gosS (m_s v) N 0), (m_held v), (cp47 (m_s v) (m_aside v)), (m_before v), (m_untried v), (m_isHeld v), (m_tape v), (m_taped v), (m_token v), (m_from v), (m_to v), (m_value v), (m_isWrong v), (m_heard v), (m_isMoved v), (prR (m_s v) N j (m_rows v) 0), (m_rowN v), (m_sortOf v), (m_sizeOf v), (m_numbers v), (m_holdsWhat v), (m_holdsWhich v), (m_holdsMany v), (m_bodies v), (m_ran v), (m_actKind v), (m_actN v), (m_actA v), (m_isParted v))) (rfl) ?_
      refine g_sub [1, 2, 3, 0] (lv' := [(0, .ref (a 0)), (1, .int x), (2, .int y), (3, .int 0)]) rfl ?_
      exact J_35 _ (0) ((m_heard v)) ((m_isMoved v)) (Nat.lt_succ_self _) (by first | assumption | omega)
    · refine g_iconst C (-1) dX5_prove_20 (by decide) ?_
      exact g_iret C ((m_aside v), (m_heard v), (m_isMoved v), (m_rows v), (m_rowN v)) hr dX5_prove_21 (Nat.le_of_ble_eq_true rfl) (Nat.le_of_ble_eq_true rfl) rfl (by unfold R_prove Q_prove C_prove; rw [if_neg (fun z => by first | exact c_5 z.1 | exact c_17 z.2), if_neg (fun z => by first | exact c_5 z.1 | exact c_17 z.2), if_neg (fun z => by first | exact c_5 z.1 | exact c_17 z.2)]; exact ⟨rfl, rfl, rfl⟩)

