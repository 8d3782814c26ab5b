set_option maxRecDepth 100000 in
set_option maxHeartbeats 4000000 in
theorem k_X5_firstWith (l : Launch) (D : va_G) (q : Nat → ClassId) (tt : Nat → Nat) (a : Nat → Nat) (v : MC) (N : Nat) (n : Nat) (f : Int32) (t : Int32) (hG : Gd (m_s v) N) (hn : n ≤ 61) : MI l D q tt yX5_firstWith wsX5_firstWith ({ frames := 6, cells := 0, slots := 0, locals := 134 } : Room) [.ref (a 0), .int (nI n), .int f, .int t] (mw q a v) (fun (r : Int32) (u : (Nat → Int32) × (Nat → Int32) × (Nat → Int32)) => r = (fwL (m_s v) N f t (61 - n) n)) (fun u => (mw q a ((m_s v), (m_held v), u.1, (m_before v), (m_untried v), (m_isHeld v), (m_tape v), (m_taped v), (m_token v), (m_from v), (m_to v), (m_value v), (m_isWrong v), u.2.1, u.2.2, (m_rows v), (m_rowN v), (m_sortOf v), (m_sizeOf v), (m_numbers v), (m_holdsWhat v), (m_holdsWhich v), (m_holdsMany v), (m_bodies v), (m_ran v), (m_actKind v), (m_actN v), (m_actA v), (m_isParted v)))) 0 0 := by
  refine MI.of RX5 [(0, .ref (a 0)), (1, .int (nI n)), (2, .int f), (3, .int t)] (by decide) rfl rfl (Nat.le_of_ble_eq_true rfl) rfl ?_
  intro p e s m args below meth c A C hr hnm
  have w_0 : ∀ w ∈ u_ws RX5 TX5 29, w ∈ wsX5_firstWith := by decide +kernel
  have w_1 : Cond.fieldLink RX5 7 (TX5 0).1 (TX5 0).2.1 (TX5 0).2.2.1 ∈ wsX5_firstWith := by decide +kernel
  have w_2 : Cond.fieldLink RX5 16 (TX5 2).1 (TX5 2).2.1 (TX5 2).2.2.1 ∈ wsX5_firstWith := by decide +kernel
  have h8 := hG.le
  refine g_aloadn C dX5_firstWith_0 0 rfl rfl ?_
  refine g_get C fx5 w_0 0 0 (v := .ref (a 1)) rfl (by decide) w_1 rfl dX5_firstWith_1 ?_
  refine g_aloadn C dX5_firstWith_4 0 rfl rfl ?_
  refine g_get C fx5 w_0 0 2 (v := .ref (a 3)) rfl (by decide) w_2 rfl dX5_firstWith_5 ?_
  refine g_callWv (w1 := (mw q a v)) (wr := ([0, 2, 4, 5, 6, 7, 8, 9, 10, 11, 12, 13, 14, 15, 16] : List Nat).filterMap (fun i => (mw q a v)[i]?)) (isC := [1, 3]) (isR := [0, 2, 4, 5, 6, 7, 8, 9, 10, 11, 12, 13, 14, 15, 16]) (pm := [0, 15, 1, 16, 2, 3, 4, 5, 6, 7, 8, 9, 10, 11, 12, 13, 14]) (w1' := (fun _ => (mw q a ((m_s v), (m_held v), (cp47 (m_s v) (m_aside v)), (m_before v), (m_untried v), (m_isHeld v), (m_tape v), (m_taped v), (m_token v), (m_from v), (m_to v), (m_value v), (m_isWrong v), (m_heard v), (m_isMoved v), (m_rows v), (m_rowN v), (m_sortOf v), (m_sizeOf v), (m_numbers v), (m_holdsWhat v), (m_holdsWhich v), (m_holdsMany v), (m_bodies v), (m_ran v), (m_actKind v), (m_actN v), (m_actA v), (m_isParted v))))) C (rd_S C (k_X5_copyRow l D q tt (a 1) (a 3) (m_s v) (m_aside v) ) gX5_firstWith_X5_copyRow rfl rfl rfl 2 ok_X5_copyRow (rest := []) rfl rfl (Nat.le_of_ble_eq_true rfl) dX5_firstWith_8 ⟨(Nat.le_of_ble_eq_true rfl), (Nat.le_of_ble_eq_true rfl)⟩ ⟨(Nat.le_of_ble_eq_true rfl), (Nat.le_of_ble_eq_true rfl)⟩) rfl rfl rfl (fun _ => rfl) rfl (fun _ h_8 => ?_)
  refine g_aloadn C dX5_firstWith_11 0 rfl rfl ?_
  refine g_iloadn C dX5_firstWith_12 1 rfl rfl ?_
  refine g_callAv C (rd_V C (k_X5_goes l D q tt a ((m_s v), (m_held v), (cp47 (m_s v) (m_aside v)), (m_before v), (m_untried v), (m_isHeld v), (m_tape v), (m_taped v), (m_token v), (m_from v), (m_to v), (m_value v), (m_isWrong v), (m_heard v), (m_isMoved v), (m_rows v), (m_rowN v), (m_sortOf v), (m_sizeOf v), (m_numbers v), (m_holdsWhat v), (m_holdsWhich v), (m_holdsMany v), (m_bodies v), (m_ran v), (m_actKind v), (m_actN v), (m_actA v), (m_isParted v)) N n (by first | assumption | omega) (by first | assumption | omega)) gX5_firstWith_X5_goes rfl rfl rfl 1 ok_X5_goes rfl 0 rfl rfl (rest := []) rfl rfl (Nat.le_of_ble_eq_true rfl) dX5_firstWith_13 ⟨(Nat.le_of_ble_eq_true rfl), (Nat.le_of_ble_eq_true rfl)⟩ ⟨(Nat.le_of_ble_eq_true rfl), (Nat.le_of_ble_eq_true rfl)⟩) (fun u_13 h_13 => ?_)
  refine g_wsc (mw q a ((gosS (m_s v) N n), (m_held v), (cp47 (m_s v) (m_aside v)), (m_before v), (m_untried v), (m_isHeld v), (m_tape v), (m_taped v), (m_token v), (m_from v), (m_to v), (m_value v), (m_isWrong v), u_13.1, u_13.2, (m_rows v), (m_rowN v), (m_sortOf v), (m_sizeOf v), (m_numbers v), (m_holdsWhat v), (m_holdsWhich v), (m_holdsMany v), (m_bodies v), (m_ran v), (m_actKind v), (m_actN v), (m_actA v), (m_isParted v))) rfl ?_
  refine g_iloadn C dX5_firstWith_16 1 rfl rfl ?_
  refine g_istore C [(4, .int (nI n)), (0, .ref (a 0)), (1, .int (nI n)), (2, .int f), (3, .int t)] dX5_firstWith_17 (by decide) rfl ?_
  have J_19 : ∀ (fu : Nat) (i : Nat) (hd : Nat → Int32) (mv : Nat → Int32), 61 - i < fu → (i ≤ 61) → (fwL (m_s v) N f t (61 - n) n = fwL (m_s v) N f t (61 - i) i) → G p l e ({ frames := 6, cells := 0, slots := 0, locals := 134 } : Room) s m args below meth c 5 D A (MQ below (va_Qi (fun (r : Int32) (u : (Nat → Int32) × (Nat → Int32) × (Nat → Int32)) => r = (fwL (m_s v) N f t (61 - n) n)) (Bw D A (fun u => (mw q a ((m_s v), (m_held v), u.1, (m_before v), (m_untried v), (m_isHeld v), (m_tape v), (m_taped v), (m_token v), (m_from v), (m_to v), (m_value v), (m_isWrong v), u.2.1, u.2.2, (m_rows v), (m_rowN v), (m_sortOf v), (m_sizeOf v), (m_numbers v), (m_holdsWhat v), (m_holdsWhich v), (m_holdsMany v), (m_bodies v), (m_ran v), (m_actKind v), (m_actN v), (m_actA v), (m_isParted v))))) A) args s 0 0 A) 19 [(0, .ref (a 0)), (1, .int (nI n)), (2, .int f), (3, .int t), (4, .int (nI i))] [] (mw q a ((gosS (m_s v) N i), (m_held v), (cp47 (m_s v) (m_aside v)), (m_before v), (m_untried v), (m_isHeld v), (m_tape v), (m_taped v), (m_token v), (m_from v), (m_to v), (m_value v), (m_isWrong v), hd, mv, (m_rows v), (m_rowN v), (m_sortOf v), (m_sizeOf v), (m_numbers v), (m_holdsWhat v), (m_holdsWhich v), (m_holdsMany v), (m_bodies v), (m_ran v), (m_actKind v), (m_actN v), (m_actA v), (m_isParted v))) 0 0 := by
    intro fu
    induction fu with
    | zero =>
      intro i hd mv hfu
      exact absurd hfu (Nat.not_lt_zero _)
    | succ fu ih =>
      intro i hd mv hfu hi hf
      refine g_iload C dX5_firstWith_19 4 rfl ?_
      refine g_bipush C 60 dX5_firstWith_21 (by decide) ?_
      refine g_icmpN_gt C 46 (i) (60) dX5_firstWith_23 rfl (by omega) (by omega) (fun c_23 => ?_) (fun c_23 => ?_)
      · refine g_aloadn C dX5_firstWith_46 0 rfl rfl ?_
        refine g_get C fx5 w_0 0 2 (v := .ref (a 3)) rfl (by decide) w_2 rfl dX5_firstWith_47 ?_
        refine g_aloadn C dX5_firstWith_50 0 rfl rfl ?_
        refine g_get C fx5 w_0 0 0 (v := .ref (a 1)) rfl (by decide) w_1 rfl dX5_firstWith_51 ?_
        refine g_callWv (w1 := (mw q a ((gosS (m_s v) N i), (m_held v), (cp47 (m_s v) (m_aside v)), (m_before v), (m_untried v), (m_isHeld v), (m_tape v), (m_taped v), (m_token v), (m_from v), (m_to v), (m_value v), (m_isWrong v), hd, mv, (m_rows v), (m_rowN v), (m_sortOf v), (m_sizeOf v), (m_numbers v), (m_holdsWhat v), (m_holdsWhich v), (m_holdsMany v), (m_bodies v), (m_ran v), (m_actKind v), (m_actN v), (m_actA v), (m_isParted v)))) (wr := ([0, 2, 4, 5, 6, 7, 8, 9, 10, 11, 12, 13, 14, 15, 16] : List Nat).filterMap (fun ix_ => (mw q a ((gosS (m_s v) N i), (m_held v), (cp47 (m_s v) (m_aside v)), (m_before v), (m_untried v), (m_isHeld v), (m_tape v), (m_taped v), (m_token v), (m_from v), (m_to v), (m_value v), (m_isWrong v), hd, mv, (m_rows v), (m_rowN v), (m_sortOf v), (m_sizeOf v), (m_numbers v), (m_holdsWhat v), (m_holdsWhich v), (m_holdsMany v), (m_bodies v), (m_ran v), (m_actKind v), (m_actN v), (m_actA v), (m_isParted v)))[ix_]?)) (isC := [3, 1]) (isR := [0, 2, 4, 5, 6, 7, 8, 9, 10, 11, 12, 13, 14, 15, 16]) (pm := [0, 16, 1, 15, 2, 3, 4, 5, 6, 7, 8, 9, 10, 11, 12, 13, 14]) (w1' := (fun _ => (mw q a ((cp47 (cp47 (m_s v) (m_aside v)) (gosS (m_s v) N i)), (m_held v), (cp47 (m_s v) (m_aside v)), (m_before v), (m_untried v), (m_isHeld v), (m_tape v), (m_taped v), (m_token v), (m_from v), (m_to v), (m_value v), (m_isWrong v), hd, mv, (m_rows v), (m_rowN v), (m_sortOf v), (m_sizeOf v), (m_numbers v), (m_holdsWhat v), (m_holdsWhich v), (m_holdsMany v), (m_bodies v), (m_ran v), (m_actKind v), (m_actN v), (m_actA v), (m_isParted v))))) C (rd_S C (k_X5_copyRow l D q tt (a 3) (a 1) (cp47 (m_s v) (m_aside v)) (gosS (m_s v) N i) ) gX5_firstWith_X5_copyRow rfl rfl rfl 2 ok_X5_copyRow (rest := []) rfl rfl (Nat.le_of_ble_eq_true rfl) dX5_firstWith_54 ⟨(Nat.le_of_ble_eq_true rfl), (Nat.le_of_ble_eq_true rfl)⟩ ⟨(Nat.le_of_ble_eq_true rfl), (Nat.le_of_ble_eq_true rfl)⟩) rfl rfl rfl (fun _ => rfl) rfl (fun _ h_54 => ?_)
        refine g_wsc (mw q a ((m_s v), (m_held v), (cp47 (m_s v) (m_aside v)), (m_before v), (m_untried v), (m_isHeld v), (m_tape v), (m_taped v), (m_token v), (m_from v), (m_to v), (m_value v), (m_isWrong v), hd, mv, (m_rows v), (m_rowN v), (m_sortOf v), (m_sizeOf v), (m_numbers v), (m_holdsWhat v), (m_holdsWhich v), (m_holdsMany v), (m_bodies v), (m_ran v), (m_actKind v), (m_actN v), (m_actA v), (m_isParted v))) (by first | (rw [cp_back (fun k hk => gos_hi hG hk i)]; done) | (rw [cp_back (fun k hk => gos_hi hG hk i)]; rfl)) ?_
        refine g_iload C dX5_firstWith_57 4 rfl ?_
        refine g_bipush C 60 dX5_firstWith_59 (by decide) ?_
        refine g_icmpN_gt C 69 (i) (60) dX5_firstWith_61 rfl (by omega) (by omega) (fun c_61 => ?_) (fun c_61 => ?_)
        · refine g_bipush C (-3) dX5_firstWith_69 (by decide) ?_
          exact g_iret C ((cp47 (m_s v) (m_aside v)), hd, mv) hr dX5_firstWith_71 (Nat.le_of_ble_eq_true rfl) (Nat.le_of_ble_eq_true rfl) rfl (by first | (exfalso; omega) | (rw [hf]; exact (fw_hit (by omega) c_33).symm) | (rw [hf, show i = 61 by omega]; rfl))
        · refine g_iload C dX5_firstWith_64 4 rfl ?_
          refine g_goto C 71 dX5_firstWith_66 rfl ?_
          exact g_iret C ((cp47 (m_s v) (m_aside v)), hd, mv) hr dX5_firstWith_71 (Nat.le_of_ble_eq_true rfl) (Nat.le_of_ble_eq_true rfl) rfl (by first | (exfalso; omega) | (rw [hf]; exact (fw_hit (by omega) c_33).symm) | (rw [hf, show i = 61 by omega]; rfl))
      · refine g_aloadn C dX5_firstWith_26 0 rfl rfl ?_
        refine g_callAi C (rd_V C (k_X5_clappers l D q tt a ((gosS (m_s v) N i), (m_held v), (cp47 (m_s v) (m_aside v)), (m_before v), (m_untried v), (m_isHeld v), (m_tape v), (m_taped v), (m_token v), (m_from v), (m_to v), (m_value v), (m_isWrong v), hd, mv, (m_rows v), (m_rowN v), (m_sortOf v), (m_sizeOf v), (m_numbers v), (m_holdsWhat v), (m_holdsWhich v), (m_holdsMany v), (m_bodies v), (m_ran v), (m_actKind v), (m_actN v), (m_actA v), (m_isParted v)) N (hG.gos i)) gX5_firstWith_X5_clappers rfl rfl rfl 0 ok_X5_clappers rfl 0 rfl rfl (rest := []) rfl rfl (Nat.le_of_ble_eq_true rfl) dX5_firstWith_27 ⟨(Nat.le_of_ble_eq_true rfl), (Nat.le_of_ble_eq_true rfl)⟩ ⟨(Nat.le_of_ble_eq_true rfl), (Nat.le_of_ble_eq_true rfl)⟩) (fun r_27 _ h_27 => ?_)
        obtain rfl := h_27
        refine g_topci (clS (gosS (m_s v) N i) N) rfl ?_
        refine g_iloadn C dX5_firstWith_30 2 rfl rfl ?_
        refine g_iand C dX5_firstWith_31 ?_
        refine g_iloadn C dX5_firstWith_32 3 rfl rfl ?_
        refine g_icmp_eq C 46 dX5_firstWith_33 rfl (fun c_33 => ?_) (fun c_33 => ?_)
        · refine g_aloadn C dX5_firstWith_46 0 rfl rfl ?_
          refine g_get C fx5 w_0 0 2 (v := .ref (a 3)) rfl (by decide) w_2 rfl dX5_firstWith_47 ?_
          refine g_aloadn C dX5_firstWith_50 0 rfl rfl ?_
          refine g_get C fx5 w_0 0 0 (v := .ref (a 1)) rfl (by decide) w_1 rfl dX5_firstWith_51 ?_
          refine g_callWv (w1 := (mw q a ((gosS (m_s v) N i), (m_held v), (cp47 (m_s v) (m_aside v)), (m_before v), (m_untried v), (m_isHeld v), (m_tape v), (m_taped v), (m_token v), (m_from v), (m_to v), (m_value v), (m_isWrong v), hd, mv, (m_rows v), (m_rowN v), (m_sortOf v), (m_sizeOf v), (m_numbers v), (m_holdsWhat v), (m_holdsWhich v), (m_holdsMany v), (m_bodies v), (m_ran v), (m_actKind v), (m_actN v), (m_actA v), (m_isParted v)))) (wr := ([0, 2, 4, 5, 6, 7, 8, 9, 10, 11, 12, 13, 14, 15, 16] : List Nat).filterMap (fun ix_ => (mw q a ((gosS (m_s v) N i), (m_held v), (cp47 (m_s v) (m_aside v)), (m_before v), (m_untried v), (m_isHeld v), (m_tape v), (m_taped v), (m_token v), (m_from v), (m_to v), (m_value v), (m_isWrong v), hd, mv, (m_rows v), (m_rowN v), (m_sortOf v), (m_sizeOf v), (m_numbers v), (m_holdsWhat v), (m_holdsWhich v), (m_holdsMany v), (m_bodies v), (m_ran v), (m_actKind v), (m_actN v), (m_actA v), (m_isParted v)))[ix_]?)) (isC := [3, 1]) (isR := [0, 2, 4, 5, 6, 7, 8, 9, 10, 11, 12, 13, 14, 15, 16]) (pm := [0, 16, 1, 15, 2, 3, 4, 5, 6, 7, 8, 9, 10, 11, 12, 13, 14]) (w1' := (fun _ => (mw q a ((cp47 (cp47 (m_s v) (m_aside v)) (gosS (m_s v) N i)), (m_held v), (cp47 (m_s v) (m_aside v)), (m_before v), (m_untried v), (m_isHeld v), (m_tape v), (m_taped v), (m_token v), (m_from v), (m_to v), (m_value v), (m_isWrong v), hd, mv, (m_rows v), (m_rowN v), (m_sortOf v), (m_sizeOf v), (m_numbers v), (m_holdsWhat v), (m_holdsWhich v), (m_holdsMany v), (m_bodies v), (m_ran v), (m_actKind v), (m_actN v), (m_actA v), (m_isParted v))))) C (rd_S C (k_X5_copyRow l D q tt (a 3) (a 1) (cp47 (m_s v) (m_aside v)) (gosS (m_s v) N i) ) gX5_firstWith_X5_copyRow rfl rfl rfl 2 ok_X5_copyRow (rest := []) rfl rfl (Nat.le_of_ble_eq_true rfl) dX5_firstWith_54 ⟨(Nat.le_of_ble_eq_true rfl), (Nat.le_of_ble_eq_true rfl)⟩ ⟨(Nat.le_of_ble_eq_true rfl), (Nat.le_of_ble_eq_true rfl)⟩) rfl rfl rfl (fun _ => rfl) rfl (fun _ h_54 => ?_)
          refine g_wsc (mw q a ((m_s v), (m_held v), (cp47 (m_s v) (m_aside v)), (m_before v), (m_untried v), (m_isHeld v), (m_tape v), (m_taped v), (m_token v), (m_from v), (m_to v), (m_value v), (m_isWrong v), hd, mv, (m_rows v), (m_rowN v), (m_sortOf v), (m_sizeOf v), (m_numbers v), (m_holdsWhat v), (m_holdsWhich v), (m_holdsMany v), (m_bodies v), (m_ran v), (m_actKind v), (m_actN v), (m_actA v), (m_isParted v))) (by first | (rw [cp_back (fun k hk => gos_hi hG hk i)]; done) | (rw [cp_back (fun k hk => gos_hi hG hk i)]; rfl)) ?_
          refine g_iload C dX5_firstWith_57 4 rfl ?_
          refine g_bipush C 60 dX5_firstWith_59 (by decide) ?_
          refine g_icmpN_gt C 69 (i) (60) dX5_firstWith_61 rfl (by omega) (by omega) (fun c_61 => ?_) (fun c_61 => ?_)
          · refine g_bipush C (-3) dX5_firstWith_69 (by decide) ?_
            exact g_iret C ((cp47 (m_s v) (m_aside v)), hd, mv) hr dX5_firstWith_71 (Nat.le_of_ble_eq_true rfl) (Nat.le_of_ble_eq_true rfl) rfl (by first | (exfalso; omega) | (rw [hf]; exact (fw_hit (by omega) c_33).symm) | (rw [hf, show i = 61 by omega]; rfl))
          · refine g_iload C dX5_firstWith_64 4 rfl ?_
            refine g_goto C 71 dX5_firstWith_66 rfl ?_
            exact g_iret C ((cp47 (m_s v) (m_aside v)), hd, mv) hr dX5_firstWith_71 (Nat.le_of_ble_eq_true rfl) (Nat.le_of_ble_eq_true rfl) rfl (by first | (exfalso; omega) | (rw [hf]; exact (fw_hit (by omega) c_33).symm) | (rw [hf, show i = 61 by omega]; rfl))
        · refine g_aloadn C dX5_firstWith_36 0 rfl rfl ?_
          refine g_callAv C (rd_V C (k_X5_goesOn l D q tt a ((gosS (m_s v) N i), (m_held v), (cp47 (m_s v) (m_aside v)), (m_before v), (m_untried v), (m_isHeld v), (m_tape v), (m_taped v), (m_token v), (m_from v), (m_to v), (m_value v), (m_isWrong v), hd, mv, (m_rows v), (m_rowN v), (m_sortOf v), (m_sizeOf v), (m_numbers v), (m_holdsWhat v), (m_holdsWhich v), (m_holdsMany v), (m_bodies v), (m_ran v), (m_actKind v), (m_actN v), (m_actA v), (m_isParted v)) N (hG.gos i)) gX5_firstWith_X5_goesOn rfl rfl rfl 0 ok_X5_goesOn rfl 0 rfl rfl (rest := []) rfl rfl (Nat.le_of_ble_eq_true rfl) dX5_firstWith_37 ⟨(Nat.le_of_ble_eq_true rfl), (Nat.le_of_ble_eq_true rfl)⟩ ⟨(Nat.le_of_ble_eq_true rfl), (Nat.le_of_ble_eq_true rfl)⟩) (fun u_37 h_37 => ?_)
          refine g_wsc (mw q a ((goS (gosS (m_s v) N i) N), (m_held v), (cp47 (m_s v) (m_aside v)), (m_before v), (m_untried v), (m_isHeld v), (m_tape v), (m_taped v), (m_token v), (m_from v), (m_to v), (m_value v), (m_isWrong v), u_37.1, u_37.2, (m_rows v), (m_rowN v), (m_sortOf v), (m_sizeOf v), (m_numbers v), (m_holdsWhat v), (m_holdsWhich v), (m_holdsMany v), (m_bodies v), (m_ran v), (m_actKind v), (m_actN v), (m_actA v), (m_isParted v))) rfl ?_
          refine g_wsc (mw q a ((gosS (m_s v) N (i + 1)), (m_held v), (cp47 (m_s v) (m_aside v)), (m_before v), (m_untried v), (m_isHeld v), (m_tape v), (m_taped v), (m_token v), (m_from v), (m_to v), (m_value v), (m_isWrong v), u_37.1, u_37.2, (m_rows v), (m_rowN v), (m_sortOf v), (m_sizeOf v), (m_numbers v), (m_holdsWhat v), (m_holdsWhich v), (m_holdsMany v), (m_bodies v), (m_ran v), (m_actKind v), (m_actN v), (m_actA v), (m_isParted v))) (rfl) ?_
          refine g_iinc C (nI (i + 1)) [(4, .int (nI (i + 1))), (0, .ref (a 0)), (1, .int (nI n)), (2, .int f), (3, .int t)] dX5_firstWith_40 4 rfl (nI_add i 1) (by decide) rfl ?_
          refine g_goto C 19 dX5_firstWith_43 rfl ?_
          refine g_sub [1, 2, 3, 4, 0] (lv' := [(0, .ref (a 0)), (1, .int (nI n)), (2, .int f), (3, .int t), (4, .int (nI (i + 1)))]) rfl ?_
          exact ih ((i + 1)) (u_37.1) (u_37.2) (by omega) (by first | assumption | omega) (hf.trans (fw_miss (by omega) c_33))
  refine g_sub [1, 2, 3, 4, 0] (lv' := [(0, .ref (a 0)), (1, .int (nI n)), (2, .int f), (3, .int t), (4, .int (nI n))]) rfl ?_
  exact J_19 _ (n) (u_13.1) (u_13.2) (Nat.lt_succ_self _) (by first | assumption | omega) rfl

set_option maxRecDepth 100000 in
set_option maxHeartbeats 4000000 in
theorem k_X5_everybody (l : Launch) (D : va_G) (q : Nat → ClassId) (tt : Nat → Nat) (a : Nat → Nat) (v : MC) (N : Nat) (hG : Gd (m_s v) N) : MI l D q tt yX5_everybody wsX5_everybody ({ frames := 0, cells := 0, slots := 0, locals := 0 } : Room) [.ref (a 0)] (mw q a v) (fun (r : Int32) (u : Unit) => r = (evS N)) (fun (_ : Unit) => (mw q a v)) 0 0 := by
  refine MI.of RX5 [(0, .ref (a 0))] (by decide) rfl rfl (Nat.le_of_ble_eq_true rfl) rfl ?_
  intro p e s m args below meth c A C hr hnm
  have w_0 : ∀ w ∈ u_ws RX5 TX5 29, w ∈ wsX5_everybody := by decide +kernel
  have w_1 : Cond.fieldLink RX5 7 (TX5 0).1 (TX5 0).2.1 (TX5 0).2.2.1 ∈ wsX5_everybody := by decide +kernel
  refine g_iconst C 1 dX5_everybody_0 (by decide) ?_
  refine g_aloadn C dX5_everybody_1 0 rfl rfl ?_
  refine g_get C fx5 w_0 0 0 (v := .ref (a 1)) rfl (by decide) w_1 rfl dX5_everybody_2 ?_
  refine g_iconst C 0 dX5_everybody_5 (by decide) ?_
  refine g_iald C 1 (0) (f := (m_s v)) rfl rfl (by omega) (by decide) dX5_everybody_6 ?_
  refine g_topci (nI N) (hG.n) ?_
  refine g_ishl C dX5_everybody_7 ?_
  refine g_iconst C 1 dX5_everybody_8 (by decide) ?_
  refine g_isub C dX5_everybody_9 ?_
  exact g_iret C () hr dX5_everybody_10 (Nat.le_of_ble_eq_true rfl) (Nat.le_of_ble_eq_true rfl) rfl (rfl)

set_option maxRecDepth 100000 in
set_option maxHeartbeats 4000000 in
theorem k_X5_joins (l : Launch) (D : va_G) (q : Nat → ClassId) (tt : Nat → Nat) (a : Nat → Nat) (v : MC) (N : Nat) (x : Int32) (hG : Gd (m_s v) N) : MI l D q tt yX5_joins wsX5_joins ({ frames := 7, cells := 0, slots := 0, locals := 158 } : Room) [.ref (a 0), .int x] (mw q a v) (fun (r : Int32) (u : (Nat → Int32) × (Nat → Int32) × (Nat → Int32)) => r = R_joins (m_s v) N x) (fun u => (mw q a ((m_s v), (m_held v), u.1, (m_before v), (m_untried v), (m_isHeld v), (m_tape v), (m_taped v), (m_token v), (m_from v), (m_to v), (m_value v), (m_isWrong v), u.2.1, u.2.2, (m_rows v), (m_rowN v), (m_sortOf v), (m_sizeOf v), (m_numbers v), (m_holdsWhat v), (m_holdsWhich v), (m_holdsMany v), (m_bodies v), (m_ran v), (m_actKind v), (m_actN v), (m_actA v), (m_isParted v)))) 0 0 := by
  refine MI.of RX5 [(0, .ref (a 0)), (1, .int x)] (by decide) rfl rfl (Nat.le_of_ble_eq_true rfl) rfl ?_
  intro p e s m args below meth c A C hr hnm
  have h8 := hG.le
  refine g_aloadn C dX5_joins_0 0 rfl rfl ?_
  refine g_iloadn C dX5_joins_1 1 rfl rfl ?_
  refine g_callAi C (rd_V C (k_X5_isOne l D q tt a v x ) gX5_joins_X5_isOne rfl rfl rfl 1 ok_X5_isOne rfl 0 rfl rfl (rest := []) rfl rfl (Nat.le_of_ble_eq_true rfl) dX5_joins_2 ⟨(Nat.le_of_ble_eq_true rfl), (Nat.le_of_ble_eq_true rfl)⟩ ⟨(Nat.le_of_ble_eq_true rfl), (Nat.le_of_ble_eq_true rfl)⟩) (fun r_2 _ h_2 => ?_)
  obtain rfl := h_2
  refine g_ifeqE C 22 dX5_joins_5 rfl rfl (fun c_5 => ?_) (fun c_5 => ?_)
  · refine g_iconst C (-1) dX5_joins_22 (by decide) ?_
    exact g_iret C ((m_aside v), (m_heard v), (m_isMoved v)) hr dX5_joins_23 (Nat.le_of_ble_eq_true rfl) (Nat.le_of_ble_eq_true rfl) rfl (by unfold R_joins; (repeat' split) <;> first | rfl | exact ⟨rfl, rfl⟩ | (exfalso; simp only [lg_lt0, lg_gt0, w_le, w_lt, Int32.lt_iff_toInt_lt, Int32.le_iff_toInt_le, ← Int32.toInt_inj, tI_0, tI_1, tI_2, tI_3, tI_4, tI_5, tI_6, tI_7, tI_8, tI_9, tI_10, tI_13, tI_19, tI_20, tI_30, tI_32, tI_40, tI_48, tI_57, tI_59, tI_60, tI_97, tI_99, tI_100, tI_122, tI_200, tI_m1, tI_m2, tI_m3, tI_39, not_and, not_or] at * <;> omega))
  · obtain ⟨j, hj, ej, ec⟩ := ix_one hG c_5
    refine g_aloadn C dX5_joins_8 0 rfl rfl ?_
    refine g_iconst C 0 dX5_joins_9 (by decide) ?_
    refine g_iconst C 1 dX5_joins_10 (by decide) ?_
    refine g_iloadn C dX5_joins_11 1 rfl rfl ?_
    refine g_ishl C dX5_joins_12 ?_
    refine g_iconst C 1 dX5_joins_13 (by decide) ?_
    refine g_iloadn C dX5_joins_14 1 rfl rfl ?_
    refine g_ishl C dX5_joins_15 ?_
    refine g_callAi C (rd_V C (k_X5_firstWith l D q tt a v N 0 (1 <<< (x &&& 31)) (1 <<< (x &&& 31)) (by first | assumption | omega) (by first | assumption | omega)) gX5_joins_X5_firstWith rfl rfl rfl 3 ok_X5_firstWith rfl 0 rfl rfl (rest := []) rfl rfl (Nat.le_of_ble_eq_true rfl) dX5_joins_16 ⟨(Nat.le_of_ble_eq_true rfl), (Nat.le_of_ble_eq_true rfl)⟩ ⟨(Nat.le_of_ble_eq_true rfl), (Nat.le_of_ble_eq_true rfl)⟩) (fun r_16 u_16 h_16 => ?_)
    obtain rfl := h_16
    refine g_goto C 23 dX5_joins_19 rfl ?_
    exact g_iret C (u_16.1, u_16.2.1, u_16.2.2) hr dX5_joins_23 (Nat.le_of_ble_eq_true rfl) (Nat.le_of_ble_eq_true rfl) rfl (by unfold R_joins; (repeat' split) <;> first | rfl | exact ⟨rfl, rfl⟩ | (exfalso; simp only [lg_lt0, lg_gt0, w_le, w_lt, Int32.lt_iff_toInt_lt, Int32.le_iff_toInt_le, ← Int32.toInt_inj, tI_0, tI_1, tI_2, tI_3, tI_4, tI_5, tI_6, tI_7, tI_8, tI_9, tI_10, tI_13, tI_19, tI_20, tI_30, tI_32, tI_40, tI_48, tI_57, tI_59, tI_60, tI_97, tI_99, tI_100, tI_122, tI_200, tI_m1, tI_m2, tI_m3, tI_39, not_and, not_or] at * <;> omega))

set_option maxRecDepth 100000 in
set_option maxHeartbeats 4000000 in
theorem k_X5_all (l : Launch) (D : va_G) (q : Nat → ClassId) (tt : Nat → Nat) (a : Nat → Nat) (v : MC) (N : Nat) (hG : Gd (m_s v) N) : MI l D q tt yX5_all wsX5_all ({ frames := 7, cells := 0, slots := 0, locals := 158 } : Room) [.ref (a 0)] (mw q a v) (fun (r : Int32) (u : (Nat → Int32) × (Nat → Int32) × (Nat → Int32)) => r = R_all (m_s v) N) (fun u => (mw q a ((m_s v), (m_held v), u.1, (m_before v), (m_untried v), (m_isHeld v), (m_tape v), (m_taped v), (m_token v), (m_from v), (m_to v), (m_value v), (m_isWrong v), u.2.1, u.2.2, (m_rows v), (m_rowN v), (m_sortOf v), (m_sizeOf v), (m_numbers v), (m_holdsWhat v), (m_holdsWhich v), (m_holdsMany v), (m_bodies v), (m_ran v), (m_actKind v), (m_actN v), (m_actA v), (m_isParted v)))) 0 0 := by
  refine MI.of RX5 [(0, .ref (a 0))] (by decide) rfl rfl (Nat.le_of_ble_eq_true rfl) rfl ?_
  intro p e s m args below meth c A C hr hnm
  have h8 := hG.le
  refine g_aloadn C dX5_all_0 0 rfl rfl ?_
  refine g_iconst C 0 dX5_all_1 (by decide) ?_
  refine g_aloadn C dX5_all_2 0 rfl rfl ?_
  refine g_callAi C (rd_V C (k_X5_everybody l D q tt a v N (by first | assumption | omega)) gX5_all_X5_everybody rfl rfl rfl 0 ok_X5_everybody rfl 0 rfl rfl (rest := [.int 0, .ref (a 0)]) rfl rfl (Nat.le_of_ble_eq_true rfl) dX5_all_3 ⟨(Nat.le_of_ble_eq_true rfl), (Nat.le_of_ble_eq_true rfl)⟩ ⟨(Nat.le_of_ble_eq_true rfl), (Nat.le_of_ble_eq_true rfl)⟩) (fun r_3 _ h_3 => ?_)
  obtain rfl := h_3
  refine g_aloadn C dX5_all_6 0 rfl rfl ?_
  refine g_callAi C (rd_V C (k_X5_everybody l D q tt a v N (by first | assumption | omega)) gX5_all_X5_everybody rfl rfl rfl 0 ok_X5_everybody rfl 0 rfl rfl (rest := [.int (evS N), .int 0, .ref (a 0)]) rfl rfl (Nat.le_of_ble_eq_true rfl) dX5_all_7 ⟨(Nat.le_of_ble_eq_true rfl), (Nat.le_of_ble_eq_true rfl)⟩ ⟨(Nat.le_of_ble_eq_true rfl), (Nat.le_of_ble_eq_true rfl)⟩) (fun r_7 _ h_7 => ?_)
  obtain rfl := h_7
  refine g_callAi C (rd_V C (k_X5_firstWith l D q tt a v N 0 (evS N) (evS N) (by first | assumption | omega) (by first | assumption | omega)) gX5_all_X5_firstWith rfl rfl rfl 3 ok_X5_firstWith rfl 0 rfl rfl (rest := []) rfl rfl (Nat.le_of_ble_eq_true rfl) dX5_all_10 ⟨(Nat.le_of_ble_eq_true rfl), (Nat.le_of_ble_eq_true rfl)⟩ ⟨(Nat.le_of_ble_eq_true rfl), (Nat.le_of_ble_eq_true rfl)⟩) (fun r_10 u_10 h_10 => ?_)
  obtain rfl := h_10
  exact g_iret C (u_10.1, u_10.2.1, u_10.2.2) hr dX5_all_13 (Nat.le_of_ble_eq_true rfl) (Nat.le_of_ble_eq_true rfl) rfl (rfl)

set_option maxRecDepth 100000 in
set_option maxHeartbeats 4000000 in
theorem k_X5_hush (l : Launch) (D : va_G) (q : Nat → ClassId) (tt : Nat → Nat) (a : Nat → Nat) (v : MC) (N : Nat) (hG : Gd (m_s v) N) : MI l D q tt yX5_hush wsX5_hush ({ frames := 7, cells := 0, slots := 0, locals := 158 } : Room) [.ref (a 0)] (mw q a v) (fun (r : Int32) (u : (Nat → Int32) × (Nat → Int32) × (Nat → Int32)) => r = R_hush (m_s v) N) (fun u => (mw q a ((m_s v), (m_held v), u.1, (m_before v), (m_untried v), (m_isHeld v), (m_tape v), (m_taped v), (m_token v), (m_from v), (m_to v), (m_value v), (m_isWrong v), u.2.1, u.2.2, (m_rows v), (m_rowN v), (m_sortOf v), (m_sizeOf v), (m_numbers v), (m_holdsWhat v), (m_holdsWhich v), (m_holdsMany v), (m_bodies v), (m_ran v), (m_actKind v), (m_actN v), (m_actA v), (m_isParted v)))) 0 0 := by
  refine MI.of RX5 [(0, .ref (a 0))] (by decide) rfl rfl (Nat.le_of_ble_eq_true rfl) rfl ?_
  intro p e s m args below meth c A C hr hnm
  have h8 := hG.le
  refine g_aloadn C dX5_hush_0 0 rfl rfl ?_
  refine g_iconst C 0 dX5_hush_1 (by decide) ?_
  refine g_aloadn C dX5_hush_2 0 rfl rfl ?_
  refine g_callAi C (rd_V C (k_X5_everybody l D q tt a v N (by first | assumption | omega)) gX5_hush_X5_everybody rfl rfl rfl 0 ok_X5_everybody rfl 0 rfl rfl (rest := [.int 0, .ref (a 0)]) rfl rfl (Nat.le_of_ble_eq_true rfl) dX5_hush_3 ⟨(Nat.le_of_ble_eq_true rfl), (Nat.le_of_ble_eq_true rfl)⟩ ⟨(Nat.le_of_ble_eq_true rfl), (Nat.le_of_ble_eq_true rfl)⟩) (fun r_3 _ h_3 => ?_)
  obtain rfl := h_3
  refine g_iconst C 0 dX5_hush_6 (by decide) ?_
  refine g_callAi C (rd_V C (k_X5_firstWith l D q tt a v N 0 (evS N) 0 (by first | assumption | omega) (by first | assumption | omega)) gX5_hush_X5_firstWith rfl rfl rfl 3 ok_X5_firstWith rfl 0 rfl rfl (rest := []) rfl rfl (Nat.le_of_ble_eq_true rfl) dX5_hush_7 ⟨(Nat.le_of_ble_eq_true rfl), (Nat.le_of_ble_eq_true rfl)⟩ ⟨(Nat.le_of_ble_eq_true rfl), (Nat.le_of_ble_eq_true rfl)⟩) (fun r_7 u_7 h_7 => ?_)
  obtain rfl := h_7
  exact g_iret C (u_7.1, u_7.2.1, u_7.2.2) hr dX5_hush_10 (Nat.le_of_ble_eq_true rfl) (Nat.le_of_ble_eq_true rfl) rfl (rfl)

set_option maxRecDepth 100000 in
set_option maxHeartbeats 4000000 in
theorem k_X5_round (l : Launch) (D : va_G) (q : Nat → ClassId) (tt : Nat → Nat) (a : Nat → Nat) (v : MC) (N : Nat) (hG : Gd (m_s v) N) : MI l D q tt yX5_round wsX5_round ({ frames := 7, cells := 0, slots := 0, locals := 158 } : Room) [.ref (a 0)] (mw q a v) (fun (r : Int32) (u : (Nat → Int32) × (Nat → Int32) × (Nat → Int32)) => r = R_round (m_s v) N) (fun u => (mw q a ((m_s v), (m_held v), u.1, (m_before v), (m_untried v), (m_isHeld v), (m_tape v), (m_taped v), (m_token v), (m_from v), (m_to v), (m_value v), (m_isWrong v), u.2.1, u.2.2, (m_rows v), (m_rowN v), (m_sortOf v), (m_sizeOf v), (m_numbers v), (m_holdsWhat v), (m_holdsWhich v), (m_holdsMany v), (m_bodies v), (m_ran v), (m_actKind v), (m_actN v), (m_actA v), (m_isParted v)))) 0 0 := by
  refine MI.of RX5 [(0, .ref (a 0))] (by decide) rfl rfl (Nat.le_of_ble_eq_true rfl) rfl ?_
  intro p e s m args below meth c A C hr hnm
  have h8 := hG.le
  refine g_aloadn C dX5_round_0 0 rfl rfl ?_
  refine g_iconst C 1 dX5_round_1 (by decide) ?_
  refine g_aloadn C dX5_round_2 0 rfl rfl ?_
  refine g_callAi C (rd_V C (k_X5_everybody l D q tt a v N (by first | assumption | omega)) gX5_round_X5_everybody rfl rfl rfl 0 ok_X5_everybody rfl 0 rfl rfl (rest := [.int 1, .ref (a 0)]) rfl rfl (Nat.le_of_ble_eq_true rfl) dX5_round_3 ⟨(Nat.le_of_ble_eq_true rfl), (Nat.le_of_ble_eq_true rfl)⟩ ⟨(Nat.le_of_ble_eq_true rfl), (Nat.le_of_ble_eq_true rfl)⟩) (fun r_3 _ h_3 => ?_)
  obtain rfl := h_3
  refine g_aloadn C dX5_round_6 0 rfl rfl ?_
  refine g_callAi C (rd_V C (k_X5_clappers l D q tt a v N (by first | assumption | omega)) gX5_round_X5_clappers rfl rfl rfl 0 ok_X5_clappers rfl 0 rfl rfl (rest := [.int (evS N), .int 1, .ref (a 0)]) rfl rfl (Nat.le_of_ble_eq_true rfl) dX5_round_7 ⟨(Nat.le_of_ble_eq_true rfl), (Nat.le_of_ble_eq_true rfl)⟩ ⟨(Nat.le_of_ble_eq_true rfl), (Nat.le_of_ble_eq_true rfl)⟩) (fun r_7 _ h_7 => ?_)
  obtain rfl := h_7
  refine g_callAi C (rd_V C (k_X5_firstWith l D q tt a v N 1 (evS N) (clS (m_s v) N) (by first | assumption | omega) (by first | assumption | omega)) gX5_round_X5_firstWith rfl rfl rfl 3 ok_X5_firstWith rfl 0 rfl rfl (rest := []) rfl rfl (Nat.le_of_ble_eq_true rfl) dX5_round_10 ⟨(Nat.le_of_ble_eq_true rfl), (Nat.le_of_ble_eq_true rfl)⟩ ⟨(Nat.le_of_ble_eq_true rfl), (Nat.le_of_ble_eq_true rfl)⟩) (fun r_10 u_10 h_10 => ?_)
  obtain rfl := h_10
  exact g_iret C (u_10.1, u_10.2.1, u_10.2.2) hr dX5_round_13 (Nat.le_of_ble_eq_true rfl) (Nat.le_of_ble_eq_true rfl) rfl (rfl)

set_option maxRecDepth 100000 in
set_option maxHeartbeats 4000000 in
theorem k_X5_isShort (l : Launch) (D : va_G) (q : Nat → ClassId) (tt : Nat → Nat) (x : Int32)  : MI l D q tt yX5_isShort wsX5_isShort ({ frames := 1, cells := 0, slots := 0, locals := 25 } : Room) [.int x] [] (fun (r : Int32) (u : Unit) => r = (bI (1 ≤ x ∧ x ≤ 20))) (fun (_ : Unit) => []) 0 0 := by
  refine MI.of RX5 [(0, .int x)] (by decide) rfl rfl (Nat.le_of_ble_eq_true rfl) rfl ?_
  intro p e s m args below meth c A C hr hnm
  have w_0 : Cond.constantLong RX5 237 (20) ∈ wsX5_isShort := by decide +kernel
  refine g_iloadn C dX5_isShort_0 0 rfl rfl ?_
  refine g_i2l C dX5_isShort_1 ?_
  refine g_lconst C 1 dX5_isShort_2 (by decide) ?_
  refine g_ldc2 C (20) dX5_isShort_3 w_0 ?_
  refine g_call0i C (rd_S C (k_isIn32 l D q tt (x) 1 (20) 1 (20) (by first | rfl | decide) (by first | rfl | decide)) gX5_isShort_X5_isIn rfl rfl rfl 3 ok_X5_isIn (rest := []) rfl rfl (Nat.le_of_ble_eq_true rfl) dX5_isShort_6 ⟨(Nat.le_of_ble_eq_true rfl), (Nat.le_of_ble_eq_true rfl)⟩ ⟨(Nat.le_of_ble_eq_true rfl), (Nat.le_of_ble_eq_true rfl)⟩) (fun _ => rfl) (fun r_6 _ h_6 => ?_)
  obtain rfl := h_6
  exact g_zret C () hr bI_z dX5_isShort_9 (Nat.le_of_ble_eq_true rfl) (Nat.le_of_ble_eq_true rfl) rfl (rfl)

set_option maxRecDepth 100000 in
set_option maxHeartbeats 4000000 in
theorem k_X5_proudestBy (l : Launch) (D : va_G) (q : Nat → ClassId) (tt : Nat → Nat) (a : Nat → Nat) (v : MC) (N : Nat) (o : Nat) (w : Nat) (lc : Nat) (n : Nat) (hG : Gd (m_s v) N) (ho : o < N) (hw : w < 5) (hc : lc < 100) (hn : n < 2 ^ 31) (hU : ∀ i, i ≤ lc → Gd (upd (m_s v) (7 + 5 * o + w) (nI i)) N) : MI l D q tt yX5_proudestBy wsX5_proudestBy ({ frames := 6, cells := 0, slots := 0, locals := 134 } : Room) [.ref (a 0), .int (nI o), .int (nI w), .int (nI lc), .int (nI n)] (mw q a v) (fun (r : Int32) (u : (Nat → Int32) × (Nat → Int32) × (Nat → Int32)) => r = ((pbL (m_s v) N o (7 + 5 * o + w) n (lc + 1)).1)) (fun u => (mw q a ((m_s v), (m_held v), u.1, (m_before v), (m_untried v), (m_isHeld v), (m_tape v), (m_taped v), (m_token v), (m_from v), (m_to v), (m_value v), (m_isWrong v), u.2.1, u.2.2, (m_rows v), (m_rowN v), (m_sortOf v), (m_sizeOf v), (m_numbers v), (m_holdsWhat v), (m_holdsWhich v), (m_holdsMany v), (m_bodies v), (m_ran v), (m_actKind v), (m_actN v), (m_actA v), (m_isParted v)))) 0 0 := by
  refine MI.of RX5 [(0, .ref (a 0)), (1, .int (nI o)), (2, .int (nI w)), (3, .int (nI lc)), (4, .int (nI n))] (by decide) rfl rfl (Nat.le_of_ble_eq_true rfl) rfl ?_
  intro p e s m args below meth c A C hr hnm
  have w_0 : ∀ w ∈ u_ws RX5 TX5 29, w ∈ wsX5_proudestBy := by decide +kernel
  have w_1 : Cond.fieldLink RX5 7 (TX5 0).1 (TX5 0).2.1 (TX5 0).2.2.1 ∈ wsX5_proudestBy := by decide +kernel
  have w_2 : Cond.fieldLink RX5 16 (TX5 2).1 (TX5 2).2.1 (TX5 2).2.2.1 ∈ wsX5_proudestBy := by decide +kernel
  have h8 := hG.le
  refine g_bipush C 7 dX5_proudestBy_0 (by decide) ?_
  refine g_iconst C 5 dX5_proudestBy_2 (by decide) ?_
  refine g_iloadn C dX5_proudestBy_3 1 rfl rfl ?_
  refine g_imul C dX5_proudestBy_4 ?_
  refine g_iadd C dX5_proudestBy_5 ?_
  refine g_iloadn C dX5_proudestBy_6 2 rfl rfl ?_
  refine g_iadd C dX5_proudestBy_7 ?_
  refine g_topci (nI (7 + 5 * o + w)) (ix_add (ix_add rfl (ix_mul rfl rfl)) rfl) ?_
  refine g_istore C [(5, .int (nI (7 + 5 * o + w))), (0, .ref (a 0)), (1, .int (nI o)), (2, .int (nI w)), (3, .int (nI lc)), (4, .int (nI n))] dX5_proudestBy_8 (by decide) rfl ?_
  refine g_aloadn C dX5_proudestBy_10 1 rfl rfl ?_
  refine g_get C fx5 w_0 0 0 (v := .ref (a 1)) rfl (by decide) w_1 rfl dX5_proudestBy_11 ?_
  refine g_iload C dX5_proudestBy_14 0 rfl ?_
  refine g_iald C 1 ((7 + 5 * o + w)) (f := (m_s v)) rfl rfl (by omega) (by decide) dX5_proudestBy_16 ?_
  refine g_istore C [(6, .int ((m_s v) (7 + 5 * o + w))), (5, .int (nI (7 + 5 * o + w))), (0, .ref (a 0)), (1, .int (nI o)), (2, .int (nI w)), (3, .int (nI lc)), (4, .int (nI n))] dX5_proudestBy_17 (by decide) rfl ?_
  refine g_iconst C 0 dX5_proudestBy_19 (by decide) ?_
  refine g_istore C [(7, .int 0), (6, .int ((m_s v) (7 + 5 * o + w))), (5, .int (nI (7 + 5 * o + w))), (0, .ref (a 0)), (1, .int (nI o)), (2, .int (nI w)), (3, .int (nI lc)), (4, .int (nI n))] dX5_proudestBy_20 (by decide) rfl ?_
  refine g_iconst C (-1) dX5_proudestBy_22 (by decide) ?_
  refine g_istore C [(8, .int (-1)), (7, .int 0), (6, .int ((m_s v) (7 + 5 * o + w))), (5, .int (nI (7 + 5 * o + w))), (0, .ref (a 0)), (1, .int (nI o)), (2, .int (nI w)), (3, .int (nI lc)), (4, .int (nI n))] dX5_proudestBy_23 (by decide) rfl ?_
  refine g_iconst C 0 dX5_proudestBy_25 (by decide) ?_
  refine g_istore C [(9, .int 0), (8, .int (-1)), (7, .int 0), (6, .int ((m_s v) (7 + 5 * o + w))), (5, .int (nI (7 + 5 * o + w))), (0, .ref (a 0)), (1, .int (nI o)), (2, .int (nI w)), (3, .int (nI lc)), (4, .int (nI n))] dX5_proudestBy_26 (by decide) rfl ?_
  have J_28 : ∀ (fu : Nat) (i : Nat) (xx : Int32) (as : Nat → Int32) (hd : Nat → Int32) (mv : Nat → Int32), lc + 1 - i < fu → (i ≤ lc + 1) → G p l e ({ frames := 6, cells := 0, slots := 0, locals := 134 } : Room) s m args below meth c 11 D A (MQ below (va_Qi (fun (r : Int32) (u : (Nat → Int32) × (Nat → Int32) × (Nat → Int32)) => r = ((pbL (m_s v) N o (7 + 5 * o + w) n (lc + 1)).1)) (Bw D A (fun u => (mw q a ((m_s v), (m_held v), u.1, (m_before v), (m_untried v), (m_isHeld v), (m_tape v), (m_taped v), (m_token v), (m_from v), (m_to v), (m_value v), (m_isWrong v), u.2.1, u.2.2, (m_rows v), (m_rowN v), (m_sortOf v), (m_sizeOf v), (m_numbers v), (m_holdsWhat v), (m_holdsWhich v), (m_holdsMany v), (m_bodies v), (m_ran v), (m_actKind v), (m_actN v), (m_actA v), (m_isParted v))))) A) args s 0 0 A) 28 [(0, .ref (a 0)), (1, .int (nI o)), (2, .int (nI w)), (3, .int (nI lc)), (4, .int (nI n)), (5, .int (nI (7 + 5 * o + w))), (6, .int ((m_s v) (7 + 5 * o + w))), (7, .int ((pbL (m_s v) N o (7 + 5 * o + w) n i).1)), (8, .int ((pbL (m_s v) N o (7 + 5 * o + w) n i).2)), (9, .int (nI i))] [] (mw q a ((upd (m_s v) (7 + 5 * o + w) xx), (m_held v), as, (m_before v), (m_untried v), (m_isHeld v), (m_tape v), (m_taped v), (m_token v), (m_from v), (m_to v), (m_value v), (m_isWrong v), hd, mv, (m_rows v), (m_rowN v), (m_sortOf v), (m_sizeOf v), (m_numbers v), (m_holdsWhat v), (m_holdsWhich v), (m_holdsMany v), (m_bodies v), (m_ran v), (m_actKind v), (m_actN v), (m_actA v), (m_isParted v))) 0 0 := by
    intro fu
    induction fu with
    | zero =>
      intro i xx as hd mv hfu
      exact absurd hfu (Nat.not_lt_zero _)
    | succ fu ih =>
      intro i xx as hd mv hfu hi
      refine g_iload C dX5_proudestBy_28 9 rfl ?_
      refine g_iloadn C dX5_proudestBy_30 3 rfl rfl ?_
      refine g_icmpN_gt C 110 (i) (lc) dX5_proudestBy_31 rfl (by omega) (by omega) (fun c_31 => ?_) (fun c_31 => ?_)
      · refine g_aloadn C dX5_proudestBy_110 0 rfl rfl ?_
        refine g_get C fx5 w_0 0 0 (v := .ref (a 1)) rfl (by decide) w_1 rfl dX5_proudestBy_111 ?_
        refine g_iload C dX5_proudestBy_114 5 rfl ?_
        refine g_iload C dX5_proudestBy_116 6 rfl ?_
        refine g_iast C 1 ((7 + 5 * o + w)) (f := (upd (m_s v) (7 + 5 * o + w) xx)) rfl rfl (by omega) (by decide) dX5_proudestBy_118 (mw q a ((upd (upd (m_s v) (7 + 5 * o + w) xx) (7 + 5 * o + w) ((m_s v) (7 + 5 * o + w))), (m_held v), as, (m_before v), (m_untried v), (m_isHeld v), (m_tape v), (m_taped v), (m_token v), (m_from v), (m_to v), (m_value v), (m_isWrong v), hd, mv, (m_rows v), (m_rowN v), (m_sortOf v), (m_sizeOf v), (m_numbers v), (m_holdsWhat v), (m_holdsWhich v), (m_holdsMany v), (m_bodies v), (m_ran v), (m_actKind v), (m_actN v), (m_actA v), (m_isParted v))) rfl ?_
        refine g_wsc (mw q a ((m_s v), (m_held v), as, (m_before v), (m_untried v), (m_isHeld v), (m_tape v), (m_taped v), (m_token v), (m_from v), (m_to v), (m_value v), (m_isWrong v), hd, mv, (m_rows v), (m_rowN v), (m_sortOf v), (m_sizeOf v), (m_numbers v), (m_holdsWhat v), (m_holdsWhich v), (m_holdsMany v), (m_bodies v), (m_ran v), (m_actKind v), (m_actN v), (m_actA v), (m_isParted v))) (by first | (rw [upd_twice, upd_self]; done) | (rw [upd_twice, upd_self]; rfl)) ?_
        refine g_iload C dX5_proudestBy_119 7 rfl ?_
        exact g_iret C (as, hd, mv) hr dX5_proudestBy_121 (Nat.le_of_ble_eq_true rfl) (Nat.le_of_ble_eq_true rfl) rfl (by rw [show lc + 1 = i by omega])
      · refine g_aloadn C dX5_proudestBy_34 0 rfl rfl ?_
        refine g_get C fx5 w_0 0 0 (v := .ref (a 1)) rfl (by decide) w_1 rfl dX5_proudestBy_35 ?_
        refine g_iload C dX5_proudestBy_38 5 rfl ?_
        refine g_iload C dX5_proudestBy_40 9 rfl ?_
        refine g_iast C 1 ((7 + 5 * o + w)) (f := (upd (m_s v) (7 + 5 * o + w) xx)) rfl rfl (by omega) (by decide) dX5_proudestBy_42 (mw q a ((upd (upd (m_s v) (7 + 5 * o + w) xx) (7 + 5 * o + w) (nI i)), (m_held v), as, (m_before v), (m_untried v), (m_isHeld v), (m_tape v), (m_taped v), (m_token v), (m_from v), (m_to v), (m_value v), (m_isWrong v), hd, mv, (m_rows v), (m_rowN v), (m_sortOf v), (m_sizeOf v), (m_numbers v), (m_holdsWhat v), (m_holdsWhich v), (m_holdsMany v), (m_bodies v), (m_ran v), (m_actKind v), (m_actN v), (m_actA v), (m_isParted v))) rfl ?_
        refine g_wsc (mw q a ((upd (m_s v) (7 + 5 * o + w) (nI i)), (m_held v), as, (m_before v), (m_untried v), (m_isHeld v), (m_tape v), (m_taped v), (m_token v), (m_from v), (m_to v), (m_value v), (m_isWrong v), hd, mv, (m_rows v), (m_rowN v), (m_sortOf v), (m_sizeOf v), (m_numbers v), (m_holdsWhat v), (m_holdsWhich v), (m_holdsMany v), (m_bodies v), (m_ran v), (m_actKind v), (m_actN v), (m_actA v), (m_isParted v))) (by rw [upd_twice]) ?_
        refine g_aloadn C dX5_proudestBy_43 0 rfl rfl ?_
        refine g_get C fx5 w_0 0 0 (v := .ref (a 1)) rfl (by decide) w_1 rfl dX5_proudestBy_44 ?_
        refine g_aloadn C dX5_proudestBy_47 0 rfl rfl ?_
        refine g_get C fx5 w_0 0 2 (v := .ref (a 3)) rfl (by decide) w_2 rfl dX5_proudestBy_48 ?_
        refine g_callWv (w1 := (mw q a ((upd (m_s v) (7 + 5 * o + w) (nI i)), (m_held v), as, (m_before v), (m_untried v), (m_isHeld v), (m_tape v), (m_taped v), (m_token v), (m_from v), (m_to v), (m_value v), (m_isWrong v), hd, mv, (m_rows v), (m_rowN v), (m_sortOf v), (m_sizeOf v), (m_numbers v), (m_holdsWhat v), (m_holdsWhich v), (m_holdsMany v), (m_bodies v), (m_ran v), (m_actKind v), (m_actN v), (m_actA v), (m_isParted v)))) (wr := ([0, 2, 4, 5, 6, 7, 8, 9, 10, 11, 12, 13, 14, 15, 16] : List Nat).filterMap (fun ix_ => (mw q a ((upd (m_s v) (7 + 5 * o + w) (nI i)), (m_held v), as, (m_before v), (m_untried v), (m_isHeld v), (m_tape v), (m_taped v), (m_token v), (m_from v), (m_to v), (m_value v), (m_isWrong v), hd, mv, (m_rows v), (m_rowN v), (m_sortOf v), (m_sizeOf v), (m_numbers v), (m_holdsWhat v), (m_holdsWhich v), (m_holdsMany v), (m_bodies v), (m_ran v), (m_actKind v), (m_actN v), (m_actA v), (m_isParted v)))[ix_]?)) (isC := [1, 3]) (isR := [0, 2, 4, 5, 6, 7, 8, 9, 10, 11, 12, 13, 14, 15, 16]) (pm := [0, 15, 1, 16, 2, 3, 4, 5, 6, 7, 8, 9, 10, 11, 12, 13, 14]) (w1' := (fun _ => (mw q a ((upd (m_s v) (7 + 5 * o + w) (nI i)), (m_held v), (cp47 (upd (m_s v) (7 + 5 * o + w) (nI i)) as), (m_before v), (m_untried v), (m_isHeld v), (m_tape v), (m_taped v), (m_token v), (m_from v), (m_to v), (m_value v), (m_isWrong v), hd, mv, (m_rows v), (m_rowN v), (m_sortOf v), (m_sizeOf v), (m_numbers v), (m_holdsWhat v), (m_holdsWhich v), (m_holdsMany v), (m_bodies v), (m_ran v), (m_actKind v), (m_actN v), (m_actA v), (m_isParted v))))) C (rd_S C (k_X5_copyRow l D q tt (a 1) (a 3) (upd (m_s v) (7 + 5 * o + w) (nI i)) as ) gX5_proudestBy_X5_copyRow rfl rfl rfl 2 ok_X5_copyRow (rest := []) rfl rfl (Nat.le_of_ble_eq_true rfl) dX5_proudestBy_51 ⟨(Nat.le_of_ble_eq_true rfl), (Nat.le_of_ble_eq_true rfl)⟩ ⟨(Nat.le_of_ble_eq_true rfl), (Nat.le_of_ble_eq_true rfl)⟩) rfl rfl rfl (fun _ => rfl) rfl (fun _ h_51 => ?_)
        refine g_aloadn C dX5_proudestBy_54 0 rfl rfl ?_
        refine g_iload C dX5_proudestBy_55 4 rfl ?_
        refine g_callAv C (rd_V C (k_X5_goes l D q tt a ((upd (m_s v) (7 + 5 * o + w) (nI i)), (m_held v), (cp47 (upd (m_s v) (7 + 5 * o + w) (nI i)) as), (m_before v), (m_untried v), (m_isHeld v), (m_tape v), (m_taped v), (m_token v), (m_from v), (m_to v), (m_value v), (m_isWrong v), hd, mv, (m_rows v), (m_rowN v), (m_sortOf v), (m_sizeOf v), (m_numbers v), (m_holdsWhat v), (m_holdsWhich v), (m_holdsMany v), (m_bodies v), (m_ran v), (m_actKind v), (m_actN v), (m_actA v), (m_isParted v)) N n (hU i (by omega)) (by first | assumption | omega)) gX5_proudestBy_X5_goes rfl rfl rfl 1 ok_X5_goes rfl 0 rfl rfl (rest := []) rfl rfl (Nat.le_of_ble_eq_true rfl) dX5_proudestBy_57 ⟨(Nat.le_of_ble_eq_true rfl), (Nat.le_of_ble_eq_true rfl)⟩ ⟨(Nat.le_of_ble_eq_true rfl), (Nat.le_of_ble_eq_true rfl)⟩) (fun u_57 h_57 => ?_)
        refine g_wsc (mw q a ((gosS (upd (m_s v) (7 + 5 * o + w) (nI i)) N n), (m_held v), (cp47 (upd (m_s v) (7 + 5 * o + w) (nI i)) as), (m_before v), (m_untried v), (m_isHeld v), (m_tape v), (m_taped v), (m_token v), (m_from v), (m_to v), (m_value v), (m_isWrong v), u_57.1, u_57.2, (m_rows v), (m_rowN v), (m_sortOf v), (m_sizeOf v), (m_numbers v), (m_holdsWhat v), (m_holdsWhich v), (m_holdsMany v), (m_bodies v), (m_ran v), (m_actKind v), (m_actN v), (m_actA v), (m_isParted v))) rfl ?_
        refine g_aloadn C dX5_proudestBy_60 0 rfl rfl ?_
        refine g_iloadn C dX5_proudestBy_61 1 rfl rfl ?_
        refine g_iconst C 1 dX5_proudestBy_62 (by decide) ?_
        refine g_callAi C (rd_V C (k_X5_its l D q tt a ((gosS (upd (m_s v) (7 + 5 * o + w) (nI i)) N n), (m_held v), (cp47 (upd (m_s v) (7 + 5 * o + w) (nI i)) as), (m_before v), (m_untried v), (m_isHeld v), (m_tape v), (m_taped v), (m_token v), (m_from v), (m_to v), (m_value v), (m_isWrong v), u_57.1, u_57.2, (m_rows v), (m_rowN v), (m_sortOf v), (m_sizeOf v), (m_numbers v), (m_holdsWhat v), (m_holdsWhich v), (m_holdsMany v), (m_bodies v), (m_ran v), (m_actKind v), (m_actN v), (m_actA v), (m_isParted v)) o 1 (by first | assumption | omega) (by first | assumption | omega)) gX5_proudestBy_X5_its rfl rfl rfl 2 ok_X5_its rfl 0 rfl rfl (rest := []) rfl rfl (Nat.le_of_ble_eq_true rfl) dX5_proudestBy_63 ⟨(Nat.le_of_ble_eq_true rfl), (Nat.le_of_ble_eq_true rfl)⟩ ⟨(Nat.le_of_ble_eq_true rfl), (Nat.le_of_ble_eq_true rfl)⟩) (fun r_63 _ h_63 => ?_)
        obtain rfl := h_63
        refine g_topci ((gosS (upd (m_s v) (7 + 5 * o + w) (nI i)) N n) (7 + 5 * o + 1)) rfl ?_
        refine g_topci (sP (gosS (upd (m_s v) (7 + 5 * o + w) (nI i)) N n) o) (rfl) ?_
        refine g_istore C [(10, .int (sP (gosS (upd (m_s v) (7 + 5 * o + w) (nI i)) N n) o)), (0, .ref (a 0)), (1, .int (nI o)), (2, .int (nI w)), (3, .int (nI lc)), (4, .int (nI n)), (5, .int (nI (7 + 5 * o + w))), (6, .int ((m_s v) (7 + 5 * o + w))), (7, .int ((pbL (m_s v) N o (7 + 5 * o + w) n i).1)), (8, .int ((pbL (m_s v) N o (7 + 5 * o + w) n i).2)), (9, .int (nI i))] dX5_proudestBy_66 (by decide) rfl ?_
        refine g_aloadn C dX5_proudestBy_68 1 rfl rfl ?_
        refine g_get C fx5 w_0 0 2 (v := .ref (a 3)) rfl (by decide) w_2 rfl dX5_proudestBy_69 ?_
        refine g_aloadn C dX5_proudestBy_72 1 rfl rfl ?_
        refine g_get C fx5 w_0 0 0 (v := .ref (a 1)) rfl (by decide) w_1 rfl dX5_proudestBy_73 ?_
        refine g_callWv (w1 := (mw q a ((gosS (upd (m_s v) (7 + 5 * o + w) (nI i)) N n), (m_held v), (cp47 (upd (m_s v) (7 + 5 * o + w) (nI i)) as), (m_before v), (m_untried v), (m_isHeld v), (m_tape v), (m_taped v), (m_token v), (m_from v), (m_to v), (m_value v), (m_isWrong v), u_57.1, u_57.2, (m_rows v), (m_rowN v), (m_sortOf v), (m_sizeOf v), (m_numbers v), (m_holdsWhat v), (m_holdsWhich v), (m_holdsMany v), (m_bodies v), (m_ran v), (m_actKind v), (m_actN v), (m_actA v), (m_isParted v)))) (wr := ([0, 2, 4, 5, 6, 7, 8, 9, 10, 11, 12, 13, 14, 15, 16] : List Nat).filterMap (fun ix_ => (mw q a ((gosS (upd (m_s v) (7 + 5 * o + w) (nI i)) N n), (m_held v), (cp47 (upd (m_s v) (7 + 5 * o + w) (nI i)) as), (m_before v), (m_untried v), (m_isHeld v), (m_tape v), (m_taped v), (m_token v), (m_from v), (m_to v), (m_value v), (m_isWrong v), u_57.1, u_57.2, (m_rows v), (m_rowN v), (m_sortOf v), (m_sizeOf v), (m_numbers v), (m_holdsWhat v), (m_holdsWhich v), (m_holdsMany v), (m_bodies v), (m_ran v), (m_actKind v), (m_actN v), (m_actA v), (m_isParted v)))[ix_]?)) (isC := [3, 1]) (isR := [0, 2, 4, 5, 6, 7, 8, 9, 10, 11, 12, 13, 14, 15, 16]) (pm := [0, 16, 1, 15, 2, 3, 4, 5, 6, 7, 8, 9, 10, 11, 12, 13, 14]) (w1' := (fun _ => (mw q a ((cp47 (cp47 (upd (m_s v) (7 + 5 * o + w) (nI i)) as) (gosS (upd (m_s v) (7 + 5 * o + w) (nI i)) N n)), (m_held v), (cp47 (upd (m_s v) (7 + 5 * o + w) (nI i)) as), (m_before v), (m_untried v), (m_isHeld v), (m_tape v), (m_taped v), (m_token v), (m_from v), (m_to v), (m_value v), (m_isWrong v), u_57.1, u_57.2, (m_rows v), (m_rowN v), (m_sortOf v), (m_sizeOf v), (m_numbers v), (m_holdsWhat v), (m_holdsWhich v), (m_holdsMany v), (m_bodies v), (m_ran v), (m_actKind v), (m_actN v), (m_actA v), (m_isParted v))))) C (rd_S C (k_X5_copyRow l D q tt (a 3) (a 1) (cp47 (upd (m_s v) (7 + 5 * o + w) (nI i)) as) (gosS (upd (m_s v) (7 + 5 * o + w) (nI i)) N n) ) gX5_proudestBy_X5_copyRow rfl rfl rfl 2 ok_X5_copyRow (rest := []) rfl rfl (Nat.le_of_ble_eq_true rfl) dX5_proudestBy_76 ⟨(Nat.le_of_ble_eq_true rfl), (Nat.le_of_ble_eq_true rfl)⟩ ⟨(Nat.le_of_ble_eq_true rfl), (Nat.le_of_ble_eq_true rfl)⟩) rfl rfl rfl (fun _ => rfl) rfl (fun _ h_76 => ?_)
        refine g_wsc (mw q a ((upd (m_s v) (7 + 5 * o + w) (nI i)), (m_held v), (cp47 (upd (m_s v) (7 + 5 * o + w) (nI i)) as), (m_before v), (m_untried v), (m_isHeld v), (m_tape v), (m_taped v), (m_token v), (m_from v), (m_to v), (m_value v), (m_isWrong v), u_57.1, u_57.2, (m_rows v), (m_rowN v), (m_sortOf v), (m_sizeOf v), (m_numbers v), (m_holdsWhat v), (m_holdsWhich v), (m_holdsMany v), (m_bodies v), (m_ran v), (m_actKind v), (m_actN v), (m_actA v), (m_isParted v))) (by first | (rw [cp_back (S := (upd (m_s v) (7 + 5 * o + w) (nI i))) (fun k hk => gos_hi (hU i (by omega)) hk n)]; done) | (rw [cp_back (S := (upd (m_s v) (7 + 5 * o + w) (nI i))) (fun k hk => gos_hi (hU i (by omega)) hk n)]; rfl)) ?_
        refine g_iload C dX5_proudestBy_79 0 rfl ?_
        refine g_iload C dX5_proudestBy_81 9 rfl ?_
        refine g_icmp_le C 91 dX5_proudestBy_83 rfl (fun c_83 => ?_) (fun c_83 => ?_)
        · refine g_iload C dX5_proudestBy_91 8 rfl ?_
          refine g_topci ((pbL (m_s v) N o (7 + 5 * o + w) n (i + 1)).1) (by rw [pb_neg (Int32.not_lt.mpr c_83)]) ?_
          refine g_istore C [(7, .int ((pbL (m_s v) N o (7 + 5 * o + w) n (i + 1)).1)), (10, .int (sP (gosS (upd (m_s v) (7 + 5 * o + w) (nI i)) N n) o)), (0, .ref (a 0)), (1, .int (nI o)), (2, .int (nI w)), (3, .int (nI lc)), (4, .int (nI n)), (5, .int (nI (7 + 5 * o + w))), (6, .int ((m_s v) (7 + 5 * o + w))), (8, .int ((pbL (m_s v) N o (7 + 5 * o + w) n i).2)), (9, .int (nI i))] dX5_proudestBy_93 (by decide) rfl ?_
          refine g_iload C dX5_proudestBy_95 9 rfl ?_
          refine g_iload C dX5_proudestBy_97 1 rfl ?_
          refine g_call0i C (rd_S C (k_X5_greatest l D q tt ((pbL (m_s v) N o (7 + 5 * o + w) n i).2) (sP (gosS (upd (m_s v) (7 + 5 * o + w) (nI i)) N n) o) ) gX5_proudestBy_X5_greatest rfl rfl rfl 2 ok_X5_greatest (rest := []) rfl rfl (Nat.le_of_ble_eq_true rfl) dX5_proudestBy_99 ⟨(Nat.le_of_ble_eq_true rfl), (Nat.le_of_ble_eq_true rfl)⟩ ⟨(Nat.le_of_ble_eq_true rfl), (Nat.le_of_ble_eq_true rfl)⟩) (fun _ => rfl) (fun r_99 _ h_99 => ?_)
          obtain rfl := h_99
          refine g_topci ((pbL (m_s v) N o (7 + 5 * o + w) n (i + 1)).2) (by rw [pb_neg (Int32.not_lt.mpr c_83), gr_neg c_83]) ?_
          refine g_istore C [(8, .int ((pbL (m_s v) N o (7 + 5 * o + w) n (i + 1)).2)), (7, .int ((pbL (m_s v) N o (7 + 5 * o + w) n (i + 1)).1)), (10, .int (sP (gosS (upd (m_s v) (7 + 5 * o + w) (nI i)) N n) o)), (0, .ref (a 0)), (1, .int (nI o)), (2, .int (nI w)), (3, .int (nI lc)), (4, .int (nI n)), (5, .int (nI (7 + 5 * o + w))), (6, .int ((m_s v) (7 + 5 * o + w))), (9, .int (nI i))] dX5_proudestBy_102 (by decide) rfl ?_
          refine g_iinc C (nI (i + 1)) [(9, .int (nI (i + 1))), (8, .int ((pbL (m_s v) N o (7 + 5 * o + w) n (i + 1)).2)), (7, .int ((pbL (m_s v) N o (7 + 5 * o + w) n (i + 1)).1)), (10, .int (sP (gosS (upd (m_s v) (7 + 5 * o + w) (nI i)) N n) o)), (0, .ref (a 0)), (1, .int (nI o)), (2, .int (nI w)), (3, .int (nI lc)), (4, .int (nI n)), (5, .int (nI (7 + 5 * o + w))), (6, .int ((m_s v) (7 + 5 * o + w)))] dX5_proudestBy_104 10 rfl (nI_add i 1) (by decide) rfl ?_
          refine g_goto C 28 dX5_proudestBy_107 rfl ?_
          refine g_sub [4, 5, 6, 7, 8, 9, 10, 2, 1, 0] (lv' := [(0, .ref (a 0)), (1, .int (nI o)), (2, .int (nI w)), (3, .int (nI lc)), (4, .int (nI n)), (5, .int (nI (7 + 5 * o + w))), (6, .int ((m_s v) (7 + 5 * o + w))), (7, .int ((pbL (m_s v) N o (7 + 5 * o + w) n (i + 1)).1)), (8, .int ((pbL (m_s v) N o (7 + 5 * o + w) n (i + 1)).2)), (9, .int (nI (i + 1)))]) rfl ?_
          exact ih ((i + 1)) ((nI i)) ((cp47 (upd (m_s v) (7 + 5 * o + w) (nI i)) as)) (u_57.1) (u_57.2) (by omega) (by first | assumption | omega)
        · refine g_iload C dX5_proudestBy_86 10 rfl ?_
          refine g_goto C 93 dX5_proudestBy_88 rfl ?_
          refine g_topci ((pbL (m_s v) N o (7 + 5 * o + w) n (i + 1)).1) (by rw [pb_pos (Int32.not_le.mp c_83)]) ?_
          refine g_istore C [(7, .int ((pbL (m_s v) N o (7 + 5 * o + w) n (i + 1)).1)), (10, .int (sP (gosS (upd (m_s v) (7 + 5 * o + w) (nI i)) N n) o)), (0, .ref (a 0)), (1, .int (nI o)), (2, .int (nI w)), (3, .int (nI lc)), (4, .int (nI n)), (5, .int (nI (7 + 5 * o + w))), (6, .int ((m_s v) (7 + 5 * o + w))), (8, .int ((pbL (m_s v) N o (7 + 5 * o + w) n i).2)), (9, .int (nI i))] dX5_proudestBy_93 (by decide) rfl ?_
          refine g_iload C dX5_proudestBy_95 9 rfl ?_
          refine g_iload C dX5_proudestBy_97 1 rfl ?_
          refine g_call0i C (rd_S C (k_X5_greatest l D q tt ((pbL (m_s v) N o (7 + 5 * o + w) n i).2) (sP (gosS (upd (m_s v) (7 + 5 * o + w) (nI i)) N n) o) ) gX5_proudestBy_X5_greatest rfl rfl rfl 2 ok_X5_greatest (rest := []) rfl rfl (Nat.le_of_ble_eq_true rfl) dX5_proudestBy_99 ⟨(Nat.le_of_ble_eq_true rfl), (Nat.le_of_ble_eq_true rfl)⟩ ⟨(Nat.le_of_ble_eq_true rfl), (Nat.le_of_ble_eq_true rfl)⟩) (fun _ => rfl) (fun r_99 _ h_99 => ?_)
          obtain rfl := h_99
          refine g_topci ((pbL (m_s v) N o (7 + 5 * o + w) n (i + 1)).2) (by rw [pb_pos (Int32.not_le.mp c_83), gr_pos (Int32.not_le.mp c_83)]) ?_
          refine g_istore C [(8, .int ((pbL (m_s v) N o (7 + 5 * o + w) n (i + 1)).2)), (7, .int ((pbL (m_s v) N o (7 + 5 * o + w) n (i + 1)).1)), (10, .int (sP (gosS (upd (m_s v) (7 + 5 * o + w) (nI i)) N n) o)), (0, .ref (a 0)), (1, .int (nI o)), (2, .int (nI w)), (3, .int (nI lc)), (4, .int (nI n)), (5, .int (nI (7 + 5 * o + w))), (6, .int ((m_s v) (7 + 5 * o + w))), (9, .int (nI i))] dX5_proudestBy_102 (by decide) rfl ?_
          refine g_iinc C (nI (i + 1)) [(9, .int (nI (i + 1))), (8, .int ((pbL (m_s v) N o (7 + 5 * o + w) n (i + 1)).2)), (7, .int ((pbL (m_s v) N o (7 + 5 * o + w) n (i + 1)).1)), (10, .int (sP (gosS (upd (m_s v) (7 + 5 * o + w) (nI i)) N n) o)), (0, .ref (a 0)), (1, .int (nI o)), (2, .int (nI w)), (3, .int (nI lc)), (4, .int (nI n)), (5, .int (nI (7 + 5 * o + w))), (6, .int ((m_s v) (7 + 5 * o + w)))] dX5_proudestBy_104 10 rfl (nI_add i 1) (by decide) rfl ?_
          refine g_goto C 28 dX5_proudestBy_107 rfl ?_
          refine g_sub [4, 5, 6, 7, 8, 9, 10, 2, 1, 0] (lv' := [(0, .ref (a 0)), (1, .int (nI o)), (2, .int (nI w)), (3, .int (nI lc)), (4, .int (nI n)), (5, .int (nI (7 + 5 * o + w))), (6, .int ((m_s v) (7 + 5 * o + w))), (7, .int ((pbL (m_s v) N o (7 + 5 * o + w) n (i + 1)).1)), (8, .int ((pbL (m_s v) N o (7 + 5 * o + w) n (i + 1)).2)), (9, .int (nI (i + 1)))]) rfl ?_
          exact ih ((i + 1)) ((nI i)) ((cp47 (upd (m_s v) (7 + 5 * o + w) (nI i)) as)) (u_57.1) (u_57.2) (by omega) (by first | assumption | omega)
  refine g_wsc (mw q a ((upd (m_s v) (7 + 5 * o + w) ((m_s v) (7 + 5 * o + w))), (m_held v), (m_aside v), (m_before v), (m_untried v), (m_isHeld v), (m_tape v), (m_taped v), (m_token v), (m_from v), (m_to v), (m_value v), (m_isWrong v), (m_heard v), (m_isMoved v), (m_rows v), (m_rowN v), (m_sortOf v), (m_sizeOf v), (m_numbers v), (m_holdsWhat v), (m_holdsWhich v), (m_holdsMany v), (m_bodies v), (m_ran v), (m_actKind v), (m_actN v), (m_actA v), (m_isParted v))) (by first | (rw [upd_self]; done) | (rw [upd_self]; rfl)) ?_
  refine g_sub [5, 6, 7, 8, 9, 4, 3, 2, 1, 0] (lv' := [(0, .ref (a 0)), (1, .int (nI o)), (2, .int (nI w)), (3, .int (nI lc)), (4, .int (nI n)), (5, .int (nI (7 + 5 * o + w))), (6, .int ((m_s v) (7 + 5 * o + w))), (7, .int 0), (8, .int (-1)), (9, .int 0)]) rfl ?_
  exact J_28 _ (0) (((m_s v) (7 + 5 * o + w))) ((m_aside v)) ((m_heard v)) ((m_isMoved v)) (Nat.lt_succ_self _) (by first | assumption | omega)

set_option maxRecDepth 100000 in
set_option maxHeartbeats 4000000 in
theorem k_X5_roomFor (l : Launch) (D : va_G) (q : Nat → ClassId) (tt : Nat → Nat) (a : Nat → Nat) (v : MC) (N : Nat) (x : Int32) (y : Int32) (hG : Gd (m_s v) N) : MI l D q tt yX5_roomFor wsX5_roomFor ({ frames := 7, cells := 0, slots := 0, locals := 164 } : Room) [.ref (a 0), .int x, .int y] (mw q a v) (fun (r : Int32) (u : (Nat → Int32) × (Nat → Int32) × (Nat → Int32)) => r = R_by (m_s v) N 3 8 x y) (fun u => (mw q a ((m_s v), (m_held v), u.1, (m_before v), (m_untried v), (m_isHeld v), (m_tape v), (m_taped v), (m_token v), (m_from v), (m_to v), (m_value v), (m_isWrong v), u.2.1, u.2.2, (m_rows v), (m_rowN v), (m_sortOf v), (m_sizeOf v), (m_numbers v), (m_holdsWhat v), (m_holdsWhich v), (m_holdsMany v), (m_bodies v), (m_ran v), (m_actKind v), (m_actN v), (m_actA v), (m_isParted v)))) 0 0 := by
  refine MI.of RX5 [(0, .ref (a 0)), (1, .int x), (2, .int y)] (by decide) rfl rfl (Nat.le_of_ble_eq_true rfl) rfl ?_
  intro p e s m args below meth c A C hr hnm
  have h8 := hG.le
  refine g_aloadn C dX5_roomFor_0 0 rfl rfl ?_
  refine g_iloadn C dX5_roomFor_1 1 rfl rfl ?_
  refine g_callAi C (rd_V C (k_X5_isOne l D q tt a v x ) gX5_roomFor_X5_isOne rfl rfl rfl 1 ok_X5_isOne rfl 0 rfl rfl (rest := []) rfl rfl (Nat.le_of_ble_eq_true rfl) dX5_roomFor_2 ⟨(Nat.le_of_ble_eq_true rfl), (Nat.le_of_ble_eq_true rfl)⟩ ⟨(Nat.le_of_ble_eq_true rfl), (Nat.le_of_ble_eq_true rfl)⟩) (fun r_2 _ h_2 => ?_)
  obtain rfl := h_2
  refine g_ifeqE C 27 dX5_roomFor_5 rfl rfl (fun c_5 => ?_) (fun c_5 => ?_)
  · refine g_iconst C (-1) dX5_roomFor_27 (by decide) ?_
    exact g_iret C ((m_aside v), (m_heard v), (m_isMoved v)) hr dX5_roomFor_28 (Nat.le_of_ble_eq_true rfl) (Nat.le_of_ble_eq_true rfl) rfl (by unfold R_by; (repeat' split) <;> first | (rw [ec, ed]; done) | (rw [ec, ed]; rfl) | with_reducible rfl | (exfalso; simp only [lg_lt0, lg_gt0, w_le, w_lt, Int32.lt_iff_toInt_lt, Int32.le_iff_toInt_le, ← Int32.toInt_inj, tI_0, tI_1, tI_2, tI_3, tI_4, tI_5, tI_6, tI_7, tI_8, tI_9, tI_10, tI_13, tI_19, tI_20, tI_30, tI_32, tI_40, tI_48, tI_57, tI_59, tI_60, tI_97, tI_99, tI_100, tI_122, tI_200, tI_m1, tI_m2, tI_m3, tI_39, not_and, not_or] at * <;> omega))
  · refine g_iloadn C dX5_roomFor_8 2 rfl rfl ?_
    refine g_call0i C (rd_S C (k_X5_isShort l D q tt y ) gX5_roomFor_X5_isShort rfl rfl rfl 1 ok_X5_isShort (rest := []) rfl rfl (Nat.le_of_ble_eq_true rfl) dX5_roomFor_9 ⟨(Nat.le_of_ble_eq_true rfl), (Nat.le_of_ble_eq_true rfl)⟩ ⟨(Nat.le_of_ble_eq_true rfl), (Nat.le_of_ble_eq_true rfl)⟩) (fun _ => rfl) (fun r_9 _ h_9 => ?_)
    obtain rfl := h_9
    refine g_ifeqE C 27 dX5_roomFor_12 rfl rfl (fun c_12 => ?_) (fun c_12 => ?_)
    · refine g_iconst C (-1) dX5_roomFor_27 (by decide) ?_
      exact g_iret C ((m_aside v), (m_heard v), (m_isMoved v)) hr dX5_roomFor_28 (Nat.le_of_ble_eq_true rfl) (Nat.le_of_ble_eq_true rfl) rfl (by unfold R_by; (repeat' split) <;> first | (rw [ec, ed]; done) | (rw [ec, ed]; rfl) | with_reducible rfl | (exfalso; simp only [lg_lt0, lg_gt0, w_le, w_lt, Int32.lt_iff_toInt_lt, Int32.le_iff_toInt_le, ← Int32.toInt_inj, tI_0, tI_1, tI_2, tI_3, tI_4, tI_5, tI_6, tI_7, tI_8, tI_9, tI_10, tI_13, tI_19, tI_20, tI_30, tI_32, tI_40, tI_48, tI_57, tI_59, tI_60, tI_97, tI_99, tI_100, tI_122, tI_200, tI_m1, tI_m2, tI_m3, tI_39, not_and, not_or] at * <;> omega))
    · obtain ⟨j, hj, ej, ec⟩ := ix_one hG c_5
      obtain ⟨i, hi, ei, ed⟩ := ix_le (n := 20) (by omega) ⟨Int32.le_trans (by decide) c_12.1, c_12.2⟩
      refine g_aloadn C dX5_roomFor_15 0 rfl rfl ?_
      refine g_iloadn C dX5_roomFor_16 1 rfl rfl ?_
      refine g_topci (nI j) (ej) ?_
      refine g_iconst C 3 dX5_roomFor_17 (by decide) ?_
      refine g_bipush C 7 dX5_roomFor_18 (by decide) ?_
      refine g_iloadn C dX5_roomFor_20 2 rfl rfl ?_
      refine g_topci (nI i) (ei) ?_
      refine g_callAi C (rd_V C (k_X5_proudestBy l D q tt a v N j 3 7 i (by first | assumption | omega) (by first | assumption | omega) (by first | assumption | omega) (by first | assumption | omega) (by first | assumption | omega) (fun i hi => hG.w3 hi)) gX5_roomFor_X5_proudestBy rfl rfl rfl 4 ok_X5_proudestBy rfl 0 rfl rfl (rest := []) rfl rfl (Nat.le_of_ble_eq_true rfl) dX5_roomFor_21 ⟨(Nat.le_of_ble_eq_true rfl), (Nat.le_of_ble_eq_true rfl)⟩ ⟨(Nat.le_of_ble_eq_true rfl), (Nat.le_of_ble_eq_true rfl)⟩) (fun r_21 u_21 h_21 => ?_)
      obtain rfl := h_21
      refine g_goto C 28 dX5_roomFor_24 rfl ?_
      exact g_iret C (u_21.1, u_21.2.1, u_21.2.2) hr dX5_roomFor_28 (Nat.le_of_ble_eq_true rfl) (Nat.le_of_ble_eq_true rfl) rfl (by unfold R_by; (repeat' split) <;> first | (rw [ec, ed]; done) | (rw [ec, ed]; rfl) | with_reducible rfl | (exfalso; simp only [lg_lt0, lg_gt0, w_le, w_lt, Int32.lt_iff_toInt_lt, Int32.le_iff_toInt_le, ← Int32.toInt_inj, tI_0, tI_1, tI_2, tI_3, tI_4, tI_5, tI_6, tI_7, tI_8, tI_9, tI_10, tI_13, tI_19, tI_20, tI_30, tI_32, tI_40, tI_48, tI_57, tI_59, tI_60, tI_97, tI_99, tI_100, tI_122, tI_200, tI_m1, tI_m2, tI_m3, tI_39, not_and, not_or] at * <;> omega))

set_option maxRecDepth 100000 in
set_option maxHeartbeats 4000000 in
theorem k_X5_kindFor (l : Launch) (D : va_G) (q : Nat → ClassId) (tt : Nat → Nat) (a : Nat → Nat) (v : MC) (N : Nat) (x : Int32) (y : Int32) (hG : Gd (m_s v) N) : MI l D q tt yX5_kindFor wsX5_kindFor ({ frames := 7, cells := 0, slots := 0, locals := 164 } : Room) [.ref (a 0), .int x, .int y] (mw q a v) (fun (r : Int32) (u : (Nat → Int32) × (Nat → Int32) × (Nat → Int32)) => r = R_by (m_s v) N 0 6 x y) (fun u => (mw q a ((m_s v), (m_held v), u.1, (m_before v), (m_untried v), (m_isHeld v), (m_tape v), (m_taped v), (m_token v), (m_from v), (m_to v), (m_value v), (m_isWrong v), u.2.1, u.2.2, (m_rows v), (m_rowN v), (m_sortOf v), (m_sizeOf v), (m_numbers v), (m_holdsWhat v), (m_holdsWhich v), (m_holdsMany v), (m_bodies v), (m_ran v), (m_actKind v), (m_actN v), (m_actA v), (m_isParted v)))) 0 0 := by
  refine MI.of RX5 [(0, .ref (a 0)), (1, .int x), (2, .int y)] (by decide) rfl rfl (Nat.le_of_ble_eq_true rfl) rfl ?_
  intro p e s m args below meth c A C hr hnm
  have h8 := hG.le
  refine g_aloadn C dX5_kindFor_0 0 rfl rfl ?_
  refine g_iloadn C dX5_kindFor_1 1 rfl rfl ?_
  refine g_callAi C (rd_V C (k_X5_isOne l D q tt a v x ) gX5_kindFor_X5_isOne rfl rfl rfl 1 ok_X5_isOne rfl 0 rfl rfl (rest := []) rfl rfl (Nat.le_of_ble_eq_true rfl) dX5_kindFor_2 ⟨(Nat.le_of_ble_eq_true rfl), (Nat.le_of_ble_eq_true rfl)⟩ ⟨(Nat.le_of_ble_eq_true rfl), (Nat.le_of_ble_eq_true rfl)⟩) (fun r_2 _ h_2 => ?_)
  obtain rfl := h_2
  refine g_ifeqE C 26 dX5_kindFor_5 rfl rfl (fun c_5 => ?_) (fun c_5 => ?_)
  · refine g_iconst C (-1) dX5_kindFor_26 (by decide) ?_
    exact g_iret C ((m_aside v), (m_heard v), (m_isMoved v)) hr dX5_kindFor_27 (Nat.le_of_ble_eq_true rfl) (Nat.le_of_ble_eq_true rfl) rfl (by unfold R_by; (repeat' split) <;> first | (rw [ec, ed]; done) | (rw [ec, ed]; rfl) | with_reducible rfl | (exfalso; simp only [lg_lt0, lg_gt0, w_le, w_lt, Int32.lt_iff_toInt_lt, Int32.le_iff_toInt_le, ← Int32.toInt_inj, tI_0, tI_1, tI_2, tI_3, tI_4, tI_5, tI_6, tI_7, tI_8, tI_9, tI_10, tI_13, tI_19, tI_20, tI_30, tI_32, tI_40, tI_48, tI_57, tI_59, tI_60, tI_97, tI_99, tI_100, tI_122, tI_200, tI_m1, tI_m2, tI_m3, tI_39, not_and, not_or] at * <;> omega))
  · refine g_iloadn C dX5_kindFor_8 2 rfl rfl ?_
    refine g_call0i C (rd_S C (k_X5_isShort l D q tt y ) gX5_kindFor_X5_isShort rfl rfl rfl 1 ok_X5_isShort (rest := []) rfl rfl (Nat.le_of_ble_eq_true rfl) dX5_kindFor_9 ⟨(Nat.le_of_ble_eq_true rfl), (Nat.le_of_ble_eq_true rfl)⟩ ⟨(Nat.le_of_ble_eq_true rfl), (Nat.le_of_ble_eq_true rfl)⟩) (fun _ => rfl) (fun r_9 _ h_9 => ?_)
    obtain rfl := h_9
    refine g_ifeqE C 26 dX5_kindFor_12 rfl rfl (fun c_12 => ?_) (fun c_12 => ?_)
    · refine g_iconst C (-1) dX5_kindFor_26 (by decide) ?_
      exact g_iret C ((m_aside v), (m_heard v), (m_isMoved v)) hr dX5_kindFor_27 (Nat.le_of_ble_eq_true rfl) (Nat.le_of_ble_eq_true rfl) rfl (by unfold R_by; (repeat' split) <;> first | (rw [ec, ed]; done) | (rw [ec, ed]; rfl) | with_reducible rfl | (exfalso; simp only [lg_lt0, lg_gt0, w_le, w_lt, Int32.lt_iff_toInt_lt, Int32.le_iff_toInt_le, ← Int32.toInt_inj, tI_0, tI_1, tI_2, tI_3, tI_4, tI_5, tI_6, tI_7, tI_8, tI_9, tI_10, tI_13, tI_19, tI_20, tI_30, tI_32, tI_40, tI_48, tI_57, tI_59, tI_60, tI_97, tI_99, tI_100, tI_122, tI_200, tI_m1, tI_m2, tI_m3, tI_39, not_and, not_or] at * <;> omega))
    · obtain ⟨j, hj, ej, ec⟩ := ix_one hG c_5
      obtain ⟨i, hi, ei, ed⟩ := ix_le (n := 20) (by omega) ⟨Int32.le_trans (by decide) c_12.1, c_12.2⟩
      refine g_aloadn C dX5_kindFor_15 0 rfl rfl ?_
      refine g_iloadn C dX5_kindFor_16 1 rfl rfl ?_
      refine g_topci (nI j) (ej) ?_
      refine g_iconst C 0 dX5_kindFor_17 (by decide) ?_
      refine g_iconst C 5 dX5_kindFor_18 (by decide) ?_
      refine g_iloadn C dX5_kindFor_19 2 rfl rfl ?_
      refine g_topci (nI i) (ei) ?_
      refine g_callAi C (rd_V C (k_X5_proudestBy l D q tt a v N j 0 5 i (by first | assumption | omega) (by first | assumption | omega) (by first | assumption | omega) (by first | assumption | omega) (by first | assumption | omega) (fun i hi => hG.w0 hi)) gX5_kindFor_X5_proudestBy rfl rfl rfl 4 ok_X5_proudestBy rfl 0 rfl rfl (rest := []) rfl rfl (Nat.le_of_ble_eq_true rfl) dX5_kindFor_20 ⟨(Nat.le_of_ble_eq_true rfl), (Nat.le_of_ble_eq_true rfl)⟩ ⟨(Nat.le_of_ble_eq_true rfl), (Nat.le_of_ble_eq_true rfl)⟩) (fun r_20 u_20 h_20 => ?_)
      obtain rfl := h_20
      refine g_goto C 27 dX5_kindFor_23 rfl ?_
      exact g_iret C (u_20.1, u_20.2.1, u_20.2.2) hr dX5_kindFor_27 (Nat.le_of_ble_eq_true rfl) (Nat.le_of_ble_eq_true rfl) rfl (by unfold R_by; (repeat' split) <;> first | (rw [ec, ed]; done) | (rw [ec, ed]; rfl) | with_reducible rfl | (exfalso; simp only [lg_lt0, lg_gt0, w_le, w_lt, Int32.lt_iff_toInt_lt, Int32.le_iff_toInt_le, ← Int32.toInt_inj, tI_0, tI_1, tI_2, tI_3, tI_4, tI_5, tI_6, tI_7, tI_8, tI_9, tI_10, tI_13, tI_19, tI_20, tI_30, tI_32, tI_40, tI_48, tI_57, tI_59, tI_60, tI_97, tI_99, tI_100, tI_122, tI_200, tI_m1, tI_m2, tI_m3, tI_39, not_and, not_or] at * <;> omega))

