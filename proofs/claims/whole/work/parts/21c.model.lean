set_option maxRecDepth 100000 in
set_option maxHeartbeats 4000000 in
theorem k_X5_hiredFor (l : Launch) (D : va_G) (q : Nat → ClassId) (tt : Nat → Nat) (a : Nat → Nat) (v : MC) (N : Nat) (x : Int32) (hG : Gd (m_s v) N) : MI l D q tt yX5_hiredFor wsX5_hiredFor ({ frames := 7, cells := 0, slots := 0, locals := 156 } : Room) [.ref (a 0), .int x] (mw q a v) (fun (r : Int32) (u : (Nat → Int32) × (Nat → Int32) × (Nat → Int32) × (Nat → Int32)) => P_hiredFor (m_s v) N x r) (fun u => (mw q a ((m_s v), (m_held v), u.1, (m_before v), u.2.1, (m_isHeld v), (m_tape v), (m_taped v), (m_token v), (m_from v), (m_to v), (m_value v), (m_isWrong v), u.2.2.1, u.2.2.2, (m_rows v), (m_rowN v), (m_sortOf v), (m_sizeOf v), (m_numbers v), (m_holdsWhat v), (m_holdsWhich v), (m_holdsMany v), (m_bodies v), (m_ran v), (m_actKind v), (m_actN v), (m_actA v), (m_isParted v)))) 0 0 := by
  refine MI.of RX5 [(0, .ref (a 0)), (1, .int x)] (by decide) rfl rfl (Nat.le_of_ble_eq_true rfl) rfl ?_
  intro p e s m args below meth c A C hr hnm
  have w_0 : ∀ w ∈ u_ws RX5 TX5 29, w ∈ wsX5_hiredFor := by decide +kernel
  have w_1 : Cond.fieldLink RX5 7 (TX5 0).1 (TX5 0).2.1 (TX5 0).2.2.1 ∈ wsX5_hiredFor := by decide +kernel
  have w_2 : Cond.fieldLink RX5 22 (TX5 4).1 (TX5 4).2.1 (TX5 4).2.2.1 ∈ wsX5_hiredFor := by decide +kernel
  have h8 := hG.le
  obtain ⟨M, hM, hM1, hM8⟩ : ∃ M, M = 2 ^ N ∧ 1 ≤ M ∧ M ≤ 256 := ⟨2 ^ N, rfl, Nat.two_pow_pos N, Nat.pow_le_pow_right (n := 2) (by omega) h8⟩
  have hPw : (1 : Int32) <<< (nI N &&& 31) = nI M := by rw [hM]; exact sh_pow N (by omega)
  refine g_iloadn C dX5_hiredFor_0 1 rfl rfl ?_
  refine g_call0i C (rd_S C (k_X5_isShort l D q tt x ) gX5_hiredFor_X5_isShort rfl rfl rfl 1 ok_X5_isShort (rest := []) rfl rfl (Nat.le_of_ble_eq_true rfl) dX5_hiredFor_1 ⟨(Nat.le_of_ble_eq_true rfl), (Nat.le_of_ble_eq_true rfl)⟩ ⟨(Nat.le_of_ble_eq_true rfl), (Nat.le_of_ble_eq_true rfl)⟩) (fun _ => rfl) (fun r_1 _ h_1 => ?_)
  obtain rfl := h_1
  refine g_ifneE C 9 dX5_hiredFor_4 rfl rfl (fun c_4 => ?_) (fun c_4 => ?_)
  · obtain ⟨n, hn, en, ed⟩ := ix_le (n := 20) (by omega) ⟨Int32.le_trans (by decide) c_4.1, c_4.2⟩
    refine g_aloadn C dX5_hiredFor_9 0 rfl rfl ?_
    refine g_get C fx5 w_0 0 0 (v := .ref (a 1)) rfl (by decide) w_1 rfl dX5_hiredFor_10 ?_
    refine g_aloadn C dX5_hiredFor_13 0 rfl rfl ?_
    refine g_get C fx5 w_0 0 4 (v := .ref (a 5)) rfl (by decide) w_2 rfl dX5_hiredFor_14 ?_
    refine g_callWv (w1 := (mw q a v)) (wr := ([0, 2, 3, 4, 6, 7, 8, 9, 10, 11, 12, 13, 14, 15, 16] : List Nat).filterMap (fun i => (mw q a v)[i]?)) (isC := [1, 5]) (isR := [0, 2, 3, 4, 6, 7, 8, 9, 10, 11, 12, 13, 14, 15, 16]) (pm := [0, 15, 1, 2, 3, 16, 4, 5, 6, 7, 8, 9, 10, 11, 12, 13, 14]) (w1' := (fun _ => (mw q a ((m_s v), (m_held v), (m_aside v), (m_before v), (cp47 (m_s v) (m_untried v)), (m_isHeld v), (m_tape v), (m_taped v), (m_token v), (m_from v), (m_to v), (m_value v), (m_isWrong v), (m_heard v), (m_isMoved v), (m_rows v), (m_rowN v), (m_sortOf v), (m_sizeOf v), (m_numbers v), (m_holdsWhat v), (m_holdsWhich v), (m_holdsMany v), (m_bodies v), (m_ran v), (m_actKind v), (m_actN v), (m_actA v), (m_isParted v))))) C (rd_S C (k_X5_copyRow l D q tt (a 1) (a 5) (m_s v) (m_untried v) ) gX5_hiredFor_X5_copyRow rfl rfl rfl 2 ok_X5_copyRow (rest := []) rfl rfl (Nat.le_of_ble_eq_true rfl) dX5_hiredFor_17 ⟨(Nat.le_of_ble_eq_true rfl), (Nat.le_of_ble_eq_true rfl)⟩ ⟨(Nat.le_of_ble_eq_true rfl), (Nat.le_of_ble_eq_true rfl)⟩) rfl rfl rfl (fun _ => rfl) rfl (fun _ h_17 => ?_)
    refine g_bipush C (-3) dX5_hiredFor_20 (by decide) ?_
    refine g_istoren C [(2, .int (-3)), (0, .ref (a 0)), (1, .int x)] dX5_hiredFor_22 rfl (by decide) rfl ?_
    refine g_iconst C 0 dX5_hiredFor_23 (by decide) ?_
    refine g_istoren C [(3, .int 0), (2, .int (-3)), (0, .ref (a 0)), (1, .int x)] dX5_hiredFor_24 rfl (by decide) rfl ?_
    have J_25 : ∀ (fu : Nat) (k : Nat) (b : Int32) (as : Nat → Int32) (hd : Nat → Int32) (mv : Nat → Int32), M - k < fu → (k ≤ M) → (lsS (hrG (m_s v) N n) k b) → G p l e ({ frames := 7, cells := 0, slots := 0, locals := 156 } : Room) s m args below meth c 5 D A (MQ below (va_Qi (fun (r : Int32) (u : (Nat → Int32) × (Nat → Int32) × (Nat → Int32) × (Nat → Int32)) => P_hiredFor (m_s v) N x r) (Bw D A (fun u => (mw q a ((m_s v), (m_held v), u.1, (m_before v), u.2.1, (m_isHeld v), (m_tape v), (m_taped v), (m_token v), (m_from v), (m_to v), (m_value v), (m_isWrong v), u.2.2.1, u.2.2.2, (m_rows v), (m_rowN v), (m_sortOf v), (m_sizeOf v), (m_numbers v), (m_holdsWhat v), (m_holdsWhich v), (m_holdsMany v), (m_bodies v), (m_ran v), (m_actKind v), (m_actN v), (m_actA v), (m_isParted v))))) A) args s 0 0 A) 25 [(0, .ref (a 0)), (1, .int x), (2, .int b), (3, .int (nI k))] [] (mw q a ((m_s v), (m_held v), as, (m_before v), (cp47 (m_s v) (m_untried v)), (m_isHeld v), (m_tape v), (m_taped v), (m_token v), (m_from v), (m_to v), (m_value v), (m_isWrong v), hd, mv, (m_rows v), (m_rowN v), (m_sortOf v), (m_sizeOf v), (m_numbers v), (m_holdsWhat v), (m_holdsWhich v), (m_holdsMany v), (m_bodies v), (m_ran v), (m_actKind v), (m_actN v), (m_actA v), (m_isParted v))) 0 0 := by
      intro fu
      induction fu with
      | zero =>
        intro k b as hd mv hfu
        exact absurd hfu (Nat.not_lt_zero _)
      | succ fu ih_25 =>
        intro k b as hd mv hfu hk hb
        refine g_iloadn C dX5_hiredFor_25 3 rfl rfl ?_
        refine g_iconst C 1 dX5_hiredFor_26 (by decide) ?_
        refine g_aloadn C dX5_hiredFor_27 0 rfl rfl ?_
        refine g_get C fx5 w_0 0 0 (v := .ref (a 1)) rfl (by decide) w_1 rfl dX5_hiredFor_28 ?_
        refine g_iconst C 0 dX5_hiredFor_31 (by decide) ?_
        refine g_iald C 1 (0) (f := (m_s v)) rfl rfl (by omega) (by decide) dX5_hiredFor_32 ?_
        refine g_topci (nI N) (hG.n) ?_
        refine g_ishl C dX5_hiredFor_33 ?_
        refine g_topci (nI M) (hPw) ?_
        refine g_icmpN_ge C 140 (k) (M) dX5_hiredFor_34 rfl (by omega) (by omega) (fun c_34 => ?_) (fun c_34 => ?_)
        · refine g_iloadn C dX5_hiredFor_140 2 rfl rfl ?_
          exact g_iret C (as, (cp47 (m_s v) (m_untried v)), hd, mv) hr dX5_hiredFor_141 (Nat.le_of_ble_eq_true rfl) (Nat.le_of_ble_eq_true rfl) rfl (Or.inl ⟨c_4, by rw [ed, ← hM, ← show k = M by omega]; exact hb⟩)
        · refine g_iloadn C dX5_hiredFor_37 2 rfl rfl ?_
          refine g_if_lt C 52 dX5_hiredFor_38 rfl (fun c_38 => ?_) (fun c_38 => ?_)
          · refine g_iconst C 0 dX5_hiredFor_52 (by decide) ?_
            refine g_istore C [(4, .int 0), (0, .ref (a 0)), (1, .int x), (2, .int b), (3, .int (nI k))] dX5_hiredFor_53 (by decide) rfl ?_
            have J_55 : ∀ (fu : Nat) (i : Nat), N - i < fu → (i ≤ N) → G p l e ({ frames := 7, cells := 0, slots := 0, locals := 156 } : Room) s m args below meth c 5 D A (MQ below (va_Qi (fun (r : Int32) (u : (Nat → Int32) × (Nat → Int32) × (Nat → Int32) × (Nat → Int32)) => P_hiredFor (m_s v) N x r) (Bw D A (fun u => (mw q a ((m_s v), (m_held v), u.1, (m_before v), u.2.1, (m_isHeld v), (m_tape v), (m_taped v), (m_token v), (m_from v), (m_to v), (m_value v), (m_isWrong v), u.2.2.1, u.2.2.2, (m_rows v), (m_rowN v), (m_sortOf v), (m_sizeOf v), (m_numbers v), (m_holdsWhat v), (m_holdsWhich v), (m_holdsMany v), (m_bodies v), (m_ran v), (m_actKind v), (m_actN v), (m_actA v), (m_isParted v))))) A) args s 0 0 A) 55 [(0, .ref (a 0)), (1, .int x), (2, .int b), (3, .int (nI k)), (4, .int (nI i))] [] (mw q a ((shS (m_s v) i k), (m_held v), as, (m_before v), (cp47 (m_s v) (m_untried v)), (m_isHeld v), (m_tape v), (m_taped v), (m_token v), (m_from v), (m_to v), (m_value v), (m_isWrong v), hd, mv, (m_rows v), (m_rowN v), (m_sortOf v), (m_sizeOf v), (m_numbers v), (m_holdsWhat v), (m_holdsWhich v), (m_holdsMany v), (m_bodies v), (m_ran v), (m_actKind v), (m_actN v), (m_actA v), (m_isParted v))) 0 0 := by
              intro fu
              induction fu with
              | zero =>
                intro i hfu
                exact absurd hfu (Nat.not_lt_zero _)
              | succ fu ih_55 =>
                intro i hfu hi
                refine g_iload C dX5_hiredFor_55 4 rfl ?_
                refine g_aloadn C dX5_hiredFor_57 0 rfl rfl ?_
                refine g_get C fx5 w_0 0 0 (v := .ref (a 1)) rfl (by decide) w_1 rfl dX5_hiredFor_58 ?_
                refine g_iconst C 0 dX5_hiredFor_61 (by decide) ?_
                refine g_iald C 1 (0) (f := (shS (m_s v) i k)) rfl rfl (by omega) (by decide) dX5_hiredFor_62 ?_
                refine g_topci (nI N) ((sh_out (Or.inl (by omega))).trans hG.n) ?_
                refine g_icmpN_ge C 105 (i) (N) dX5_hiredFor_63 rfl (by omega) (by omega) (fun c_63 => ?_) (fun c_63 => ?_)
                · refine g_wsc (mw q a ((shS (m_s v) N k), (m_held v), as, (m_before v), (cp47 (m_s v) (m_untried v)), (m_isHeld v), (m_tape v), (m_taped v), (m_token v), (m_from v), (m_to v), (m_value v), (m_isWrong v), hd, mv, (m_rows v), (m_rowN v), (m_sortOf v), (m_sizeOf v), (m_numbers v), (m_holdsWhat v), (m_holdsWhich v), (m_holdsMany v), (m_bodies v), (m_ran v), (m_actKind v), (m_actN v), (m_actA v), (m_isParted v))) (by rw [show i = N by omega]) ?_
                  refine g_aloadn C dX5_hiredFor_105 0 rfl rfl ?_
                  refine g_iloadn C dX5_hiredFor_106 1 rfl rfl ?_
                  refine g_topci (nI n) (en) ?_
                  refine g_callAi C (rd_V C (k_X5_clappingBehind l D q tt a ((shS (m_s v) N k), (m_held v), as, (m_before v), (cp47 (m_s v) (m_untried v)), (m_isHeld v), (m_tape v), (m_taped v), (m_token v), (m_from v), (m_to v), (m_value v), (m_isWrong v), hd, mv, (m_rows v), (m_rowN v), (m_sortOf v), (m_sizeOf v), (m_numbers v), (m_holdsWhat v), (m_holdsWhich v), (m_holdsMany v), (m_bodies v), (m_ran v), (m_actKind v), (m_actN v), (m_actA v), (m_isParted v)) N n (Gd_sh hG) (by first | assumption | omega)) gX5_hiredFor_X5_clappingBehind rfl rfl rfl 1 ok_X5_clappingBehind rfl 0 rfl rfl (rest := []) rfl rfl (Nat.le_of_ble_eq_true rfl) dX5_hiredFor_107 ⟨(Nat.le_of_ble_eq_true rfl), (Nat.le_of_ble_eq_true rfl)⟩ ⟨(Nat.le_of_ble_eq_true rfl), (Nat.le_of_ble_eq_true rfl)⟩) (fun r_107 u_107 h_107 => ?_)
                  obtain rfl := h_107
                  refine g_wsc (mw q a ((shS (m_s v) N k), (m_held v), u_107.1, (m_before v), (cp47 (m_s v) (m_untried v)), (m_isHeld v), (m_tape v), (m_taped v), (m_token v), (m_from v), (m_to v), (m_value v), (m_isWrong v), u_107.2.1, u_107.2.2, (m_rows v), (m_rowN v), (m_sortOf v), (m_sizeOf v), (m_numbers v), (m_holdsWhat v), (m_holdsWhich v), (m_holdsMany v), (m_bodies v), (m_ran v), (m_actKind v), (m_actN v), (m_actA v), (m_isParted v))) rfl ?_
                  refine g_topci (clS (gosS (shS (m_s v) N k) N n) N) rfl ?_
                  refine g_aloadn C dX5_hiredFor_110 0 rfl rfl ?_
                  refine g_callAi C (rd_V C (k_X5_everybody l D q tt a ((shS (m_s v) N k), (m_held v), u_107.1, (m_before v), (cp47 (m_s v) (m_untried v)), (m_isHeld v), (m_tape v), (m_taped v), (m_token v), (m_from v), (m_to v), (m_value v), (m_isWrong v), u_107.2.1, u_107.2.2, (m_rows v), (m_rowN v), (m_sortOf v), (m_sizeOf v), (m_numbers v), (m_holdsWhat v), (m_holdsWhich v), (m_holdsMany v), (m_bodies v), (m_ran v), (m_actKind v), (m_actN v), (m_actA v), (m_isParted v)) N (Gd_sh hG)) gX5_hiredFor_X5_everybody rfl rfl rfl 0 ok_X5_everybody rfl 0 rfl rfl (rest := [.int (clS (gosS (shS (m_s v) N k) N n) N)]) rfl rfl (Nat.le_of_ble_eq_true rfl) dX5_hiredFor_111 ⟨(Nat.le_of_ble_eq_true rfl), (Nat.le_of_ble_eq_true rfl)⟩ ⟨(Nat.le_of_ble_eq_true rfl), (Nat.le_of_ble_eq_true rfl)⟩) (fun r_111 _ h_111 => ?_)
                  obtain rfl := h_111
                  refine g_topci (evS N) rfl ?_
                  refine g_icmp_ne C 121 dX5_hiredFor_114 rfl (fun c_114 => ?_) (fun c_114 => ?_)
                  · refine g_iloadn C dX5_hiredFor_121 2 rfl rfl ?_
                    refine g_istoren C [(2, .int b), (0, .ref (a 0)), (1, .int x), (3, .int (nI k)), (4, .int (nI i))] dX5_hiredFor_122 rfl (by decide) rfl ?_
                    refine g_aloadn C dX5_hiredFor_123 1 rfl rfl ?_
                    refine g_get C fx5 w_0 0 4 (v := .ref (a 5)) rfl (by decide) w_2 rfl dX5_hiredFor_124 ?_
                    refine g_aloadn C dX5_hiredFor_127 1 rfl rfl ?_
                    refine g_get C fx5 w_0 0 0 (v := .ref (a 1)) rfl (by decide) w_1 rfl dX5_hiredFor_128 ?_
                    refine g_callWv (w1 := (mw q a ((shS (m_s v) N k), (m_held v), u_107.1, (m_before v), (cp47 (m_s v) (m_untried v)), (m_isHeld v), (m_tape v), (m_taped v), (m_token v), (m_from v), (m_to v), (m_value v), (m_isWrong v), u_107.2.1, u_107.2.2, (m_rows v), (m_rowN v), (m_sortOf v), (m_sizeOf v), (m_numbers v), (m_holdsWhat v), (m_holdsWhich v), (m_holdsMany v), (m_bodies v), (m_ran v), (m_actKind v), (m_actN v), (m_actA v), (m_isParted v)))) (wr := ([0, 2, 3, 4, 6, 7, 8, 9, 10, 11, 12, 13, 14, 15, 16] : List Nat).filterMap (fun i => (mw q a ((shS (m_s v) N k), (m_held v), u_107.1, (m_before v), (cp47 (m_s v) (m_untried v)), (m_isHeld v), (m_tape v), (m_taped v), (m_token v), (m_from v), (m_to v), (m_value v), (m_isWrong v), u_107.2.1, u_107.2.2, (m_rows v), (m_rowN v), (m_sortOf v), (m_sizeOf v), (m_numbers v), (m_holdsWhat v), (m_holdsWhich v), (m_holdsMany v), (m_bodies v), (m_ran v), (m_actKind v), (m_actN v), (m_actA v), (m_isParted v)))[i]?)) (isC := [5, 1]) (isR := [0, 2, 3, 4, 6, 7, 8, 9, 10, 11, 12, 13, 14, 15, 16]) (pm := [0, 16, 1, 2, 3, 15, 4, 5, 6, 7, 8, 9, 10, 11, 12, 13, 14]) (w1' := (fun _ => (mw q a ((cp47 (cp47 (m_s v) (m_untried v)) (shS (m_s v) N k)), (m_held v), u_107.1, (m_before v), (cp47 (m_s v) (m_untried v)), (m_isHeld v), (m_tape v), (m_taped v), (m_token v), (m_from v), (m_to v), (m_value v), (m_isWrong v), u_107.2.1, u_107.2.2, (m_rows v), (m_rowN v), (m_sortOf v), (m_sizeOf v), (m_numbers v), (m_holdsWhat v), (m_holdsWhich v), (m_holdsMany v), (m_bodies v), (m_ran v), (m_actKind v), (m_actN v), (m_actA v), (m_isParted v))))) C (rd_S C (k_X5_copyRow l D q tt (a 5) (a 1) (cp47 (m_s v) (m_untried v)) (shS (m_s v) N k) ) gX5_hiredFor_X5_copyRow rfl rfl rfl 2 ok_X5_copyRow (rest := []) rfl rfl (Nat.le_of_ble_eq_true rfl) dX5_hiredFor_131 ⟨(Nat.le_of_ble_eq_true rfl), (Nat.le_of_ble_eq_true rfl)⟩ ⟨(Nat.le_of_ble_eq_true rfl), (Nat.le_of_ble_eq_true rfl)⟩) rfl rfl rfl (fun _ => rfl) rfl (fun _ h_131 => ?_)
                    refine g_wsc (mw q a ((m_s v), (m_held v), u_107.1, (m_before v), (cp47 (m_s v) (m_untried v)), (m_isHeld v), (m_tape v), (m_taped v), (m_token v), (m_from v), (m_to v), (m_value v), (m_isWrong v), u_107.2.1, u_107.2.2, (m_rows v), (m_rowN v), (m_sortOf v), (m_sizeOf v), (m_numbers v), (m_holdsWhat v), (m_holdsWhich v), (m_holdsMany v), (m_bodies v), (m_ran v), (m_actKind v), (m_actN v), (m_actA v), (m_isParted v))) (by first | (rw [cp_back (fun q hq => sh_out (by omega))]; done) | (rw [cp_back (fun q hq => sh_out (by omega))]; rfl)) ?_
                    refine g_iinc C (nI (k + 1)) [(3, .int (nI (k + 1))), (2, .int b), (0, .ref (a 0)), (1, .int x), (4, .int (nI i))] dX5_hiredFor_134 3 rfl (nI_add k 1) (by decide) rfl ?_
                    refine g_goto C 25 dX5_hiredFor_137 rfl ?_
                    refine g_sub [2, 3, 1, 0] (lv' := [(0, .ref (a 0)), (1, .int x), (2, .int b), (3, .int (nI (k + 1)))]) rfl ?_
                    exact ih_25 ((k + 1)) (b) (u_107.1) (u_107.2.1) (u_107.2.2) (by omega) (by first | assumption | omega) (by first | (rw [eb]; exact lk_skip hl (by omega)) | exact ls_skip hb c_114 | (rw [eb] at hb; exact lk_new hl (by omega) c_114) | exact l0_new (ls_ng (by omega) hb c_38).2 c_114)
                  · refine g_iloadn C dX5_hiredFor_117 3 rfl rfl ?_
                    refine g_goto C 122 dX5_hiredFor_118 rfl ?_
                    refine g_istoren C [(2, .int (nI k)), (0, .ref (a 0)), (1, .int x), (3, .int (nI k)), (4, .int (nI i))] dX5_hiredFor_122 rfl (by decide) rfl ?_
                    refine g_aloadn C dX5_hiredFor_123 1 rfl rfl ?_
                    refine g_get C fx5 w_0 0 4 (v := .ref (a 5)) rfl (by decide) w_2 rfl dX5_hiredFor_124 ?_
                    refine g_aloadn C dX5_hiredFor_127 1 rfl rfl ?_
                    refine g_get C fx5 w_0 0 0 (v := .ref (a 1)) rfl (by decide) w_1 rfl dX5_hiredFor_128 ?_
                    refine g_callWv (w1 := (mw q a ((shS (m_s v) N k), (m_held v), u_107.1, (m_before v), (cp47 (m_s v) (m_untried v)), (m_isHeld v), (m_tape v), (m_taped v), (m_token v), (m_from v), (m_to v), (m_value v), (m_isWrong v), u_107.2.1, u_107.2.2, (m_rows v), (m_rowN v), (m_sortOf v), (m_sizeOf v), (m_numbers v), (m_holdsWhat v), (m_holdsWhich v), (m_holdsMany v), (m_bodies v), (m_ran v), (m_actKind v), (m_actN v), (m_actA v), (m_isParted v)))) (wr := ([0, 2, 3, 4, 6, 7, 8, 9, 10, 11, 12, 13, 14, 15, 16] : List Nat).filterMap (fun i => (mw q a ((shS (m_s v) N k), (m_held v), u_107.1, (m_before v), (cp47 (m_s v) (m_untried v)), (m_isHeld v), (m_tape v), (m_taped v), (m_token v), (m_from v), (m_to v), (m_value v), (m_isWrong v), u_107.2.1, u_107.2.2, (m_rows v), (m_rowN v), (m_sortOf v), (m_sizeOf v), (m_numbers v), (m_holdsWhat v), (m_holdsWhich v), (m_holdsMany v), (m_bodies v), (m_ran v), (m_actKind v), (m_actN v), (m_actA v), (m_isParted v)))[i]?)) (isC := [5, 1]) (isR := [0, 2, 3, 4, 6, 7, 8, 9, 10, 11, 12, 13, 14, 15, 16]) (pm := [0, 16, 1, 2, 3, 15, 4, 5, 6, 7, 8, 9, 10, 11, 12, 13, 14]) (w1' := (fun _ => (mw q a ((cp47 (cp47 (m_s v) (m_untried v)) (shS (m_s v) N k)), (m_held v), u_107.1, (m_before v), (cp47 (m_s v) (m_untried v)), (m_isHeld v), (m_tape v), (m_taped v), (m_token v), (m_from v), (m_to v), (m_value v), (m_isWrong v), u_107.2.1, u_107.2.2, (m_rows v), (m_rowN v), (m_sortOf v), (m_sizeOf v), (m_numbers v), (m_holdsWhat v), (m_holdsWhich v), (m_holdsMany v), (m_bodies v), (m_ran v), (m_actKind v), (m_actN v), (m_actA v), (m_isParted v))))) C (rd_S C (k_X5_copyRow l D q tt (a 5) (a 1) (cp47 (m_s v) (m_untried v)) (shS (m_s v) N k) ) gX5_hiredFor_X5_copyRow rfl rfl rfl 2 ok_X5_copyRow (rest := []) rfl rfl (Nat.le_of_ble_eq_true rfl) dX5_hiredFor_131 ⟨(Nat.le_of_ble_eq_true rfl), (Nat.le_of_ble_eq_true rfl)⟩ ⟨(Nat.le_of_ble_eq_true rfl), (Nat.le_of_ble_eq_true rfl)⟩) rfl rfl rfl (fun _ => rfl) rfl (fun _ h_131 => ?_)
                    refine g_wsc (mw q a ((m_s v), (m_held v), u_107.1, (m_before v), (cp47 (m_s v) (m_untried v)), (m_isHeld v), (m_tape v), (m_taped v), (m_token v), (m_from v), (m_to v), (m_value v), (m_isWrong v), u_107.2.1, u_107.2.2, (m_rows v), (m_rowN v), (m_sortOf v), (m_sizeOf v), (m_numbers v), (m_holdsWhat v), (m_holdsWhich v), (m_holdsMany v), (m_bodies v), (m_ran v), (m_actKind v), (m_actN v), (m_actA v), (m_isParted v))) (by first | (rw [cp_back (fun q hq => sh_out (by omega))]; done) | (rw [cp_back (fun q hq => sh_out (by omega))]; rfl)) ?_
                    refine g_iinc C (nI (k + 1)) [(3, .int (nI (k + 1))), (2, .int (nI k)), (0, .ref (a 0)), (1, .int x), (4, .int (nI i))] dX5_hiredFor_134 3 rfl (nI_add k 1) (by decide) rfl ?_
                    refine g_goto C 25 dX5_hiredFor_137 rfl ?_
                    refine g_sub [2, 3, 1, 0] (lv' := [(0, .ref (a 0)), (1, .int x), (2, .int (nI k)), (3, .int (nI (k + 1)))]) rfl ?_
                    exact ih_25 ((k + 1)) ((nI k)) (u_107.1) (u_107.2.1) (u_107.2.2) (by omega) (by first | assumption | omega) (by first | (rw [eb]; exact lk_skip hl (by omega)) | exact ls_skip hb c_114 | (rw [eb] at hb; exact lk_new hl (by omega) c_114) | exact l0_new (ls_ng (by omega) hb c_38).2 c_114)
                · refine g_aloadn C dX5_hiredFor_66 0 rfl rfl ?_
                  refine g_get C fx5 w_0 0 0 (v := .ref (a 1)) rfl (by decide) w_1 rfl dX5_hiredFor_67 ?_
                  refine g_bipush C 7 dX5_hiredFor_70 (by decide) ?_
                  refine g_iconst C 5 dX5_hiredFor_72 (by decide) ?_
                  refine g_iload C dX5_hiredFor_73 4 rfl ?_
                  refine g_imul C dX5_hiredFor_75 ?_
                  refine g_iadd C dX5_hiredFor_76 ?_
                  refine g_iloadn C dX5_hiredFor_77 3 rfl rfl ?_
                  refine g_iload C dX5_hiredFor_78 4 rfl ?_
                  refine g_ishr C dX5_hiredFor_80 ?_
                  refine g_iconst C 1 dX5_hiredFor_81 (by decide) ?_
                  refine g_iand C dX5_hiredFor_82 ?_
                  refine g_topci (nI (btS k i)) (bt_shr i (by omega) k (by omega)) ?_
                  have hbt := bt_le k i
                  refine g_iconst C 1 dX5_hiredFor_83 (by decide) ?_
                  refine g_icmpN_ne C 91 ((btS k i)) (1) dX5_hiredFor_84 rfl (by omega) (by omega) (fun c_84 => ?_) (fun c_84 => ?_)
                  · refine g_aloadn C dX5_hiredFor_91 0 rfl rfl ?_
                    refine g_iload C dX5_hiredFor_92 4 rfl ?_
                    refine g_iconst C 0 dX5_hiredFor_94 (by decide) ?_
                    refine g_callAi C (rd_V C (k_X5_its l D q tt a ((shS (m_s v) i k), (m_held v), as, (m_before v), (cp47 (m_s v) (m_untried v)), (m_isHeld v), (m_tape v), (m_taped v), (m_token v), (m_from v), (m_to v), (m_value v), (m_isWrong v), hd, mv, (m_rows v), (m_rowN v), (m_sortOf v), (m_sizeOf v), (m_numbers v), (m_holdsWhat v), (m_holdsWhich v), (m_holdsMany v), (m_bodies v), (m_ran v), (m_actKind v), (m_actN v), (m_actA v), (m_isParted v)) i 0 (by first | assumption | omega) (by first | assumption | omega)) gX5_hiredFor_X5_its rfl rfl rfl 2 ok_X5_its rfl 0 rfl rfl (rest := [.int (7 + (5 * (nI i))), .ref (a 1)]) rfl rfl (Nat.le_of_ble_eq_true rfl) dX5_hiredFor_95 ⟨(Nat.le_of_ble_eq_true rfl), (Nat.le_of_ble_eq_true rfl)⟩ ⟨(Nat.le_of_ble_eq_true rfl), (Nat.le_of_ble_eq_true rfl)⟩) (fun r_95 _ h_95 => ?_)
                    obtain rfl := h_95
                    refine g_topci ((shS (m_s v) i k) (7 + 5 * i + 0)) rfl ?_
                    refine g_iast C 1 ((7 + (5 * i))) (f := (shS (m_s v) i k)) rfl (ix_add rfl (ix_mul rfl rfl)) (by omega) (by decide) dX5_hiredFor_98 (mw q a ((upd (shS (m_s v) i k) (7 + (5 * i)) ((shS (m_s v) i k) (7 + 5 * i + 0))), (m_held v), as, (m_before v), (cp47 (m_s v) (m_untried v)), (m_isHeld v), (m_tape v), (m_taped v), (m_token v), (m_from v), (m_to v), (m_value v), (m_isWrong v), hd, mv, (m_rows v), (m_rowN v), (m_sortOf v), (m_sizeOf v), (m_numbers v), (m_holdsWhat v), (m_holdsWhich v), (m_holdsMany v), (m_bodies v), (m_ran v), (m_actKind v), (m_actN v), (m_actA v), (m_isParted v))) rfl ?_
                    refine g_wsc (mw q a ((shS (m_s v) (i + 1) k), (m_held v), as, (m_before v), (cp47 (m_s v) (m_untried v)), (m_isHeld v), (m_tape v), (m_taped v), (m_token v), (m_from v), (m_to v), (m_value v), (m_isWrong v), hd, mv, (m_rows v), (m_rowN v), (m_sortOf v), (m_sizeOf v), (m_numbers v), (m_holdsWhat v), (m_holdsWhich v), (m_holdsMany v), (m_bodies v), (m_ran v), (m_actKind v), (m_actN v), (m_actA v), (m_isParted v))) (by rw [sh_step (by first | exact (if_pos c_84).symm | (rw [if_neg c_84]; exact sh_out (Or.inr (by omega))))]) ?_
                    refine g_iinc C (nI (i + 1)) [(4, .int (nI (i + 1))), (0, .ref (a 0)), (1, .int x), (2, .int b), (3, .int (nI k))] dX5_hiredFor_99 4 rfl (nI_add i 1) (by decide) rfl ?_
                    refine g_goto C 55 dX5_hiredFor_102 rfl ?_
                    refine g_sub [1, 2, 3, 4, 0] (lv' := [(0, .ref (a 0)), (1, .int x), (2, .int b), (3, .int (nI k)), (4, .int (nI (i + 1)))]) rfl ?_
                    exact ih_55 ((i + 1)) (by omega) (by first | assumption | omega)
                  · refine g_iconst C 2 dX5_hiredFor_87 (by decide) ?_
                    refine g_goto C 98 dX5_hiredFor_88 rfl ?_
                    refine g_iast C 1 ((7 + (5 * i))) (f := (shS (m_s v) i k)) rfl (ix_add rfl (ix_mul rfl rfl)) (by omega) (by decide) dX5_hiredFor_98 (mw q a ((upd (shS (m_s v) i k) (7 + (5 * i)) 2), (m_held v), as, (m_before v), (cp47 (m_s v) (m_untried v)), (m_isHeld v), (m_tape v), (m_taped v), (m_token v), (m_from v), (m_to v), (m_value v), (m_isWrong v), hd, mv, (m_rows v), (m_rowN v), (m_sortOf v), (m_sizeOf v), (m_numbers v), (m_holdsWhat v), (m_holdsWhich v), (m_holdsMany v), (m_bodies v), (m_ran v), (m_actKind v), (m_actN v), (m_actA v), (m_isParted v))) rfl ?_
                    refine g_wsc (mw q a ((shS (m_s v) (i + 1) k), (m_held v), as, (m_before v), (cp47 (m_s v) (m_untried v)), (m_isHeld v), (m_tape v), (m_taped v), (m_token v), (m_from v), (m_to v), (m_value v), (m_isWrong v), hd, mv, (m_rows v), (m_rowN v), (m_sortOf v), (m_sizeOf v), (m_numbers v), (m_holdsWhat v), (m_holdsWhich v), (m_holdsMany v), (m_bodies v), (m_ran v), (m_actKind v), (m_actN v), (m_actA v), (m_isParted v))) (by rw [sh_step (by first | exact (if_pos c_84).symm | (rw [if_neg c_84]; exact sh_out (Or.inr (by omega))))]) ?_
                    refine g_iinc C (nI (i + 1)) [(4, .int (nI (i + 1))), (0, .ref (a 0)), (1, .int x), (2, .int b), (3, .int (nI k))] dX5_hiredFor_99 4 rfl (nI_add i 1) (by decide) rfl ?_
                    refine g_goto C 55 dX5_hiredFor_102 rfl ?_
                    refine g_sub [1, 2, 3, 4, 0] (lv' := [(0, .ref (a 0)), (1, .int x), (2, .int b), (3, .int (nI k)), (4, .int (nI (i + 1)))]) rfl ?_
                    exact ih_55 ((i + 1)) (by omega) (by first | assumption | omega)
            refine g_wsc (mw q a ((shS (m_s v) 0 k), (m_held v), as, (m_before v), (cp47 (m_s v) (m_untried v)), (m_isHeld v), (m_tape v), (m_taped v), (m_token v), (m_from v), (m_to v), (m_value v), (m_isWrong v), hd, mv, (m_rows v), (m_rowN v), (m_sortOf v), (m_sizeOf v), (m_numbers v), (m_holdsWhat v), (m_holdsWhich v), (m_holdsMany v), (m_bodies v), (m_ran v), (m_actKind v), (m_actN v), (m_actA v), (m_isParted v))) (by rw [sh_0]) ?_
            refine g_sub [1, 2, 3, 4, 0] (lv' := [(0, .ref (a 0)), (1, .int x), (2, .int b), (3, .int (nI k)), (4, .int 0)]) rfl ?_
            exact J_55 _ (0) (Nat.lt_succ_self _) (by first | assumption | omega)
          · obtain ⟨kb, eb, hl⟩ := ls_nn hb c_38
            have pk1 := pop_le k (by omega)
            have pk2 := pop_le kb (Nat.lt_of_lt_of_le hl.1 (by omega))
            refine g_iloadn C dX5_hiredFor_41 3 rfl rfl ?_
            refine g_call0i C (rd_S C (k_X5_size l D q tt k (by omega)) gX5_hiredFor_X5_size rfl rfl rfl 1 ok_X5_size (rest := []) rfl rfl (Nat.le_of_ble_eq_true rfl) dX5_hiredFor_42 ⟨(Nat.le_of_ble_eq_true rfl), (Nat.le_of_ble_eq_true rfl)⟩ ⟨(Nat.le_of_ble_eq_true rfl), (Nat.le_of_ble_eq_true rfl)⟩) (fun _ => rfl) (fun r_42 _ h_42 => ?_)
            obtain rfl := h_42
            refine g_iloadn C dX5_hiredFor_45 2 rfl rfl ?_
            refine g_topci (nI kb) (eb) ?_
            refine g_call0i C (rd_S C (k_X5_size l D q tt kb (Nat.lt_of_lt_of_le hl.1 (by omega))) gX5_hiredFor_X5_size rfl rfl rfl 1 ok_X5_size (rest := [.int (nI (pop k))]) rfl rfl (Nat.le_of_ble_eq_true rfl) dX5_hiredFor_46 ⟨(Nat.le_of_ble_eq_true rfl), (Nat.le_of_ble_eq_true rfl)⟩ ⟨(Nat.le_of_ble_eq_true rfl), (Nat.le_of_ble_eq_true rfl)⟩) (fun _ => rfl) (fun r_46 _ h_46 => ?_)
            obtain rfl := h_46
            refine g_icmpN_ge C 134 ((pop k)) ((pop kb)) dX5_hiredFor_49 rfl (by omega) (by omega) (fun c_49 => ?_) (fun c_49 => ?_)
            · refine g_iinc C (nI (k + 1)) [(3, .int (nI (k + 1))), (0, .ref (a 0)), (1, .int x), (2, .int b)] dX5_hiredFor_134 3 rfl (nI_add k 1) (by decide) rfl ?_
              refine g_goto C 25 dX5_hiredFor_137 rfl ?_
              refine g_sub [1, 2, 3, 0] (lv' := [(0, .ref (a 0)), (1, .int x), (2, .int b), (3, .int (nI (k + 1)))]) rfl ?_
              exact ih_25 ((k + 1)) (b) (as) (hd) (mv) (by omega) (by first | assumption | omega) (by first | (rw [eb]; exact lk_skip hl (by omega)) | exact ls_skip hb c_114 | (rw [eb] at hb; exact lk_new hl (by omega) c_114) | exact l0_new (ls_ng (by omega) hb c_38).2 c_114)
            · refine g_iconst C 0 dX5_hiredFor_52 (by decide) ?_
              refine g_istore C [(4, .int 0), (0, .ref (a 0)), (1, .int x), (2, .int b), (3, .int (nI k))] dX5_hiredFor_53 (by decide) rfl ?_
              have J_55 : ∀ (fu : Nat) (i : Nat), N - i < fu → (i ≤ N) → G p l e ({ frames := 7, cells := 0, slots := 0, locals := 156 } : Room) s m args below meth c 5 D A (MQ below (va_Qi (fun (r : Int32) (u : (Nat → Int32) × (Nat → Int32) × (Nat → Int32) × (Nat → Int32)) => P_hiredFor (m_s v) N x r) (Bw D A (fun u => (mw q a ((m_s v), (m_held v), u.1, (m_before v), u.2.1, (m_isHeld v), (m_tape v), (m_taped v), (m_token v), (m_from v), (m_to v), (m_value v), (m_isWrong v), u.2.2.1, u.2.2.2, (m_rows v), (m_rowN v), (m_sortOf v), (m_sizeOf v), (m_numbers v), (m_holdsWhat v), (m_holdsWhich v), (m_holdsMany v), (m_bodies v), (m_ran v), (m_actKind v), (m_actN v), (m_actA v), (m_isParted v))))) A) args s 0 0 A) 55 [(0, .ref (a 0)), (1, .int x), (2, .int b), (3, .int (nI k)), (4, .int (nI i))] [] (mw q a ((shS (m_s v) i k), (m_held v), as, (m_before v), (cp47 (m_s v) (m_untried v)), (m_isHeld v), (m_tape v), (m_taped v), (m_token v), (m_from v), (m_to v), (m_value v), (m_isWrong v), hd, mv, (m_rows v), (m_rowN v), (m_sortOf v), (m_sizeOf v), (m_numbers v), (m_holdsWhat v), (m_holdsWhich v), (m_holdsMany v), (m_bodies v), (m_ran v), (m_actKind v), (m_actN v), (m_actA v), (m_isParted v))) 0 0 := by
                intro fu
                induction fu with
                | zero =>
                  intro i hfu
                  exact absurd hfu (Nat.not_lt_zero _)
                | succ fu ih_55 =>
                  intro i hfu hi
                  refine g_iload C dX5_hiredFor_55 4 rfl ?_
                  refine g_aloadn C dX5_hiredFor_57 0 rfl rfl ?_
                  refine g_get C fx5 w_0 0 0 (v := .ref (a 1)) rfl (by decide) w_1 rfl dX5_hiredFor_58 ?_
                  refine g_iconst C 0 dX5_hiredFor_61 (by decide) ?_
                  refine g_iald C 1 (0) (f := (shS (m_s v) i k)) rfl rfl (by omega) (by decide) dX5_hiredFor_62 ?_
                  refine g_topci (nI N) ((sh_out (Or.inl (by omega))).trans hG.n) ?_
                  refine g_icmpN_ge C 105 (i) (N) dX5_hiredFor_63 rfl (by omega) (by omega) (fun c_63 => ?_) (fun c_63 => ?_)
                  · refine g_wsc (mw q a ((shS (m_s v) N k), (m_held v), as, (m_before v), (cp47 (m_s v) (m_untried v)), (m_isHeld v), (m_tape v), (m_taped v), (m_token v), (m_from v), (m_to v), (m_value v), (m_isWrong v), hd, mv, (m_rows v), (m_rowN v), (m_sortOf v), (m_sizeOf v), (m_numbers v), (m_holdsWhat v), (m_holdsWhich v), (m_holdsMany v), (m_bodies v), (m_ran v), (m_actKind v), (m_actN v), (m_actA v), (m_isParted v))) (by rw [show i = N by omega]) ?_
                    refine g_aloadn C dX5_hiredFor_105 0 rfl rfl ?_
                    refine g_iloadn C dX5_hiredFor_106 1 rfl rfl ?_
                    refine g_topci (nI n) (en) ?_
                    refine g_callAi C (rd_V C (k_X5_clappingBehind l D q tt a ((shS (m_s v) N k), (m_held v), as, (m_before v), (cp47 (m_s v) (m_untried v)), (m_isHeld v), (m_tape v), (m_taped v), (m_token v), (m_from v), (m_to v), (m_value v), (m_isWrong v), hd, mv, (m_rows v), (m_rowN v), (m_sortOf v), (m_sizeOf v), (m_numbers v), (m_holdsWhat v), (m_holdsWhich v), (m_holdsMany v), (m_bodies v), (m_ran v), (m_actKind v), (m_actN v), (m_actA v), (m_isParted v)) N n (Gd_sh hG) (by first | assumption | omega)) gX5_hiredFor_X5_clappingBehind rfl rfl rfl 1 ok_X5_clappingBehind rfl 0 rfl rfl (rest := []) rfl rfl (Nat.le_of_ble_eq_true rfl) dX5_hiredFor_107 ⟨(Nat.le_of_ble_eq_true rfl), (Nat.le_of_ble_eq_true rfl)⟩ ⟨(Nat.le_of_ble_eq_true rfl), (Nat.le_of_ble_eq_true rfl)⟩) (fun r_107 u_107 h_107 => ?_)
                    obtain rfl := h_107
                    refine g_wsc (mw q a ((shS (m_s v) N k), (m_held v), u_107.1, (m_before v), (cp47 (m_s v) (m_untried v)), (m_isHeld v), (m_tape v), (m_taped v), (m_token v), (m_from v), (m_to v), (m_value v), (m_isWrong v), u_107.2.1, u_107.2.2, (m_rows v), (m_rowN v), (m_sortOf v), (m_sizeOf v), (m_numbers v), (m_holdsWhat v), (m_holdsWhich v), (m_holdsMany v), (m_bodies v), (m_ran v), (m_actKind v), (m_actN v), (m_actA v), (m_isParted v))) rfl ?_
                    refine g_topci (clS (gosS (shS (m_s v) N k) N n) N) rfl ?_
                    refine g_aloadn C dX5_hiredFor_110 0 rfl rfl ?_
                    refine g_callAi C (rd_V C (k_X5_everybody l D q tt a ((shS (m_s v) N k), (m_held v), u_107.1, (m_before v), (cp47 (m_s v) (m_untried v)), (m_isHeld v), (m_tape v), (m_taped v), (m_token v), (m_from v), (m_to v), (m_value v), (m_isWrong v), u_107.2.1, u_107.2.2, (m_rows v), (m_rowN v), (m_sortOf v), (m_sizeOf v), (m_numbers v), (m_holdsWhat v), (m_holdsWhich v), (m_holdsMany v), (m_bodies v), (m_ran v), (m_actKind v), (m_actN v), (m_actA v), (m_isParted v)) N (Gd_sh hG)) gX5_hiredFor_X5_everybody rfl rfl rfl 0 ok_X5_everybody rfl 0 rfl rfl (rest := [.int (clS (gosS (shS (m_s v) N k) N n) N)]) rfl rfl (Nat.le_of_ble_eq_true rfl) dX5_hiredFor_111 ⟨(Nat.le_of_ble_eq_true rfl), (Nat.le_of_ble_eq_true rfl)⟩ ⟨(Nat.le_of_ble_eq_true rfl), (Nat.le_of_ble_eq_true rfl)⟩) (fun r_111 _ h_111 => ?_)
                    obtain rfl := h_111
                    refine g_topci (evS N) rfl ?_
                    refine g_icmp_ne C 121 dX5_hiredFor_114 rfl (fun c_114 => ?_) (fun c_114 => ?_)
                    · refine g_iloadn C dX5_hiredFor_121 2 rfl rfl ?_
                      refine g_istoren C [(2, .int b), (0, .ref (a 0)), (1, .int x), (3, .int (nI k)), (4, .int (nI i))] dX5_hiredFor_122 rfl (by decide) rfl ?_
                      refine g_aloadn C dX5_hiredFor_123 1 rfl rfl ?_
                      refine g_get C fx5 w_0 0 4 (v := .ref (a 5)) rfl (by decide) w_2 rfl dX5_hiredFor_124 ?_
                      refine g_aloadn C dX5_hiredFor_127 1 rfl rfl ?_
                      refine g_get C fx5 w_0 0 0 (v := .ref (a 1)) rfl (by decide) w_1 rfl dX5_hiredFor_128 ?_
                      refine g_callWv (w1 := (mw q a ((shS (m_s v) N k), (m_held v), u_107.1, (m_before v), (cp47 (m_s v) (m_untried v)), (m_isHeld v), (m_tape v), (m_taped v), (m_token v), (m_from v), (m_to v), (m_value v), (m_isWrong v), u_107.2.1, u_107.2.2, (m_rows v), (m_rowN v), (m_sortOf v), (m_sizeOf v), (m_numbers v), (m_holdsWhat v), (m_holdsWhich v), (m_holdsMany v), (m_bodies v), (m_ran v), (m_actKind v), (m_actN v), (m_actA v), (m_isParted v)))) (wr := ([0, 2, 3, 4, 6, 7, 8, 9, 10, 11, 12, 13, 14, 15, 16] : List Nat).filterMap (fun i => (mw q a ((shS (m_s v) N k), (m_held v), u_107.1, (m_before v), (cp47 (m_s v) (m_untried v)), (m_isHeld v), (m_tape v), (m_taped v), (m_token v), (m_from v), (m_to v), (m_value v), (m_isWrong v), u_107.2.1, u_107.2.2, (m_rows v), (m_rowN v), (m_sortOf v), (m_sizeOf v), (m_numbers v), (m_holdsWhat v), (m_holdsWhich v), (m_holdsMany v), (m_bodies v), (m_ran v), (m_actKind v), (m_actN v), (m_actA v), (m_isParted v)))[i]?)) (isC := [5, 1]) (isR := [0, 2, 3, 4, 6, 7, 8, 9, 10, 11, 12, 13, 14, 15, 16]) (pm := [0, 16, 1, 2, 3, 15, 4, 5, 6, 7, 8, 9, 10, 11, 12, 13, 14]) (w1' := (fun _ => (mw q a ((cp47 (cp47 (m_s v) (m_untried v)) (shS (m_s v) N k)), (m_held v), u_107.1, (m_before v), (cp47 (m_s v) (m_untried v)), (m_isHeld v), (m_tape v), (m_taped v), (m_token v), (m_from v), (m_to v), (m_value v), (m_isWrong v), u_107.2.1, u_107.2.2, (m_rows v), (m_rowN v), (m_sortOf v), (m_sizeOf v), (m_numbers v), (m_holdsWhat v), (m_holdsWhich v), (m_holdsMany v), (m_bodies v), (m_ran v), (m_actKind v), (m_actN v), (m_actA v), (m_isParted v))))) C (rd_S C (k_X5_copyRow l D q tt (a 5) (a 1) (cp47 (m_s v) (m_untried v)) (shS (m_s v) N k) ) gX5_hiredFor_X5_copyRow rfl rfl rfl 2 ok_X5_copyRow (rest := []) rfl rfl (Nat.le_of_ble_eq_true rfl) dX5_hiredFor_131 ⟨(Nat.le_of_ble_eq_true rfl), (Nat.le_of_ble_eq_true rfl)⟩ ⟨(Nat.le_of_ble_eq_true rfl), (Nat.le_of_ble_eq_true rfl)⟩) rfl rfl rfl (fun _ => rfl) rfl (fun _ h_131 => ?_)
                      refine g_wsc (mw q a ((m_s v), (m_held v), u_107.1, (m_before v), (cp47 (m_s v) (m_untried v)), (m_isHeld v), (m_tape v), (m_taped v), (m_token v), (m_from v), (m_to v), (m_value v), (m_isWrong v), u_107.2.1, u_107.2.2, (m_rows v), (m_rowN v), (m_sortOf v), (m_sizeOf v), (m_numbers v), (m_holdsWhat v), (m_holdsWhich v), (m_holdsMany v), (m_bodies v), (m_ran v), (m_actKind v), (m_actN v), (m_actA v), (m_isParted v))) (by first | (rw [cp_back (fun q hq => sh_out (by omega))]; done) | (rw [cp_back (fun q hq => sh_out (by omega))]; rfl)) ?_
                      refine g_iinc C (nI (k + 1)) [(3, .int (nI (k + 1))), (2, .int b), (0, .ref (a 0)), (1, .int x), (4, .int (nI i))] dX5_hiredFor_134 3 rfl (nI_add k 1) (by decide) rfl ?_
                      refine g_goto C 25 dX5_hiredFor_137 rfl ?_
                      refine g_sub [2, 3, 1, 0] (lv' := [(0, .ref (a 0)), (1, .int x), (2, .int b), (3, .int (nI (k + 1)))]) rfl ?_
                      exact ih_25 ((k + 1)) (b) (u_107.1) (u_107.2.1) (u_107.2.2) (by omega) (by first | assumption | omega) (by first | (rw [eb]; exact lk_skip hl (by omega)) | exact ls_skip hb c_114 | (rw [eb] at hb; exact lk_new hl (by omega) c_114) | exact l0_new (ls_ng (by omega) hb c_38).2 c_114)
                    · refine g_iloadn C dX5_hiredFor_117 3 rfl rfl ?_
                      refine g_goto C 122 dX5_hiredFor_118 rfl ?_
                      refine g_istoren C [(2, .int (nI k)), (0, .ref (a 0)), (1, .int x), (3, .int (nI k)), (4, .int (nI i))] dX5_hiredFor_122 rfl (by decide) rfl ?_
                      refine g_aloadn C dX5_hiredFor_123 1 rfl rfl ?_
                      refine g_get C fx5 w_0 0 4 (v := .ref (a 5)) rfl (by decide) w_2 rfl dX5_hiredFor_124 ?_
                      refine g_aloadn C dX5_hiredFor_127 1 rfl rfl ?_
                      refine g_get C fx5 w_0 0 0 (v := .ref (a 1)) rfl (by decide) w_1 rfl dX5_hiredFor_128 ?_
                      refine g_callWv (w1 := (mw q a ((shS (m_s v) N k), (m_held v), u_107.1, (m_before v), (cp47 (m_s v) (m_untried v)), (m_isHeld v), (m_tape v), (m_taped v), (m_token v), (m_from v), (m_to v), (m_value v), (m_isWrong v), u_107.2.1, u_107.2.2, (m_rows v), (m_rowN v), (m_sortOf v), (m_sizeOf v), (m_numbers v), (m_holdsWhat v), (m_holdsWhich v), (m_holdsMany v), (m_bodies v), (m_ran v), (m_actKind v), (m_actN v), (m_actA v), (m_isParted v)))) (wr := ([0, 2, 3, 4, 6, 7, 8, 9, 10, 11, 12, 13, 14, 15, 16] : List Nat).filterMap (fun i => (mw q a ((shS (m_s v) N k), (m_held v), u_107.1, (m_before v), (cp47 (m_s v) (m_untried v)), (m_isHeld v), (m_tape v), (m_taped v), (m_token v), (m_from v), (m_to v), (m_value v), (m_isWrong v), u_107.2.1, u_107.2.2, (m_rows v), (m_rowN v), (m_sortOf v), (m_sizeOf v), (m_numbers v), (m_holdsWhat v), (m_holdsWhich v), (m_holdsMany v), (m_bodies v), (m_ran v), (m_actKind v), (m_actN v), (m_actA v), (m_isParted v)))[i]?)) (isC := [5, 1]) (isR := [0, 2, 3, 4, 6, 7, 8, 9, 10, 11, 12, 13, 14, 15, 16]) (pm := [0, 16, 1, 2, 3, 15, 4, 5, 6, 7, 8, 9, 10, 11, 12, 13, 14]) (w1' := (fun _ => (mw q a ((cp47 (cp47 (m_s v) (m_untried v)) (shS (m_s v) N k)), (m_held v), u_107.1, (m_before v), (cp47 (m_s v) (m_untried v)), (m_isHeld v), (m_tape v), (m_taped v), (m_token v), (m_from v), (m_to v), (m_value v), (m_isWrong v), u_107.2.1, u_107.2.2, (m_rows v), (m_rowN v), (m_sortOf v), (m_sizeOf v), (m_numbers v), (m_holdsWhat v), (m_holdsWhich v), (m_holdsMany v), (m_bodies v), (m_ran v), (m_actKind v), (m_actN v), (m_actA v), (m_isParted v))))) C (rd_S C (k_X5_copyRow l D q tt (a 5) (a 1) (cp47 (m_s v) (m_untried v)) (shS (m_s v) N k) ) gX5_hiredFor_X5_copyRow rfl rfl rfl 2 ok_X5_copyRow (rest := []) rfl rfl (Nat.le_of_ble_eq_true rfl) dX5_hiredFor_131 ⟨(Nat.le_of_ble_eq_true rfl), (Nat.le_of_ble_eq_true rfl)⟩ ⟨(Nat.le_of_ble_eq_true rfl), (Nat.le_of_ble_eq_true rfl)⟩) rfl rfl rfl (fun _ => rfl) rfl (fun _ h_131 => ?_)
                      refine g_wsc (mw q a ((m_s v), (m_held v), u_107.1, (m_before v), (cp47 (m_s v) (m_untried v)), (m_isHeld v), (m_tape v), (m_taped v), (m_token v), (m_from v), (m_to v), (m_value v), (m_isWrong v), u_107.2.1, u_107.2.2, (m_rows v), (m_rowN v), (m_sortOf v), (m_sizeOf v), (m_numbers v), (m_holdsWhat v), (m_holdsWhich v), (m_holdsMany v), (m_bodies v), (m_ran v), (m_actKind v), (m_actN v), (m_actA v), (m_isParted v))) (by first | (rw [cp_back (fun q hq => sh_out (by omega))]; done) | (rw [cp_back (fun q hq => sh_out (by omega))]; rfl)) ?_
                      refine g_iinc C (nI (k + 1)) [(3, .int (nI (k + 1))), (2, .int (nI k)), (0, .ref (a 0)), (1, .int x), (4, .int (nI i))] dX5_hiredFor_134 3 rfl (nI_add k 1) (by decide) rfl ?_
                      refine g_goto C 25 dX5_hiredFor_137 rfl ?_
                      refine g_sub [2, 3, 1, 0] (lv' := [(0, .ref (a 0)), (1, .int x), (2, .int (nI k)), (3, .int (nI (k + 1)))]) rfl ?_
                      exact ih_25 ((k + 1)) ((nI k)) (u_107.1) (u_107.2.1) (u_107.2.2) (by omega) (by first | assumption | omega) (by first | (rw [eb]; exact lk_skip hl (by omega)) | exact ls_skip hb c_114 | (rw [eb] at hb; exact lk_new hl (by omega) c_114) | exact l0_new (ls_ng (by omega) hb c_38).2 c_114)
                  · refine g_aloadn C dX5_hiredFor_66 0 rfl rfl ?_
                    refine g_get C fx5 w_0 0 0 (v := .ref (a 1)) rfl (by decide) w_1 rfl dX5_hiredFor_67 ?_
                    refine g_bipush C 7 dX5_hiredFor_70 (by decide) ?_
                    refine g_iconst C 5 dX5_hiredFor_72 (by decide) ?_
                    refine g_iload C dX5_hiredFor_73 4 rfl ?_
                    refine g_imul C dX5_hiredFor_75 ?_
                    refine g_iadd C dX5_hiredFor_76 ?_
                    refine g_iloadn C dX5_hiredFor_77 3 rfl rfl ?_
                    refine g_iload C dX5_hiredFor_78 4 rfl ?_
                    refine g_ishr C dX5_hiredFor_80 ?_
                    refine g_iconst C 1 dX5_hiredFor_81 (by decide) ?_
                    refine g_iand C dX5_hiredFor_82 ?_
                    refine g_topci (nI (btS k i)) (bt_shr i (by omega) k (by omega)) ?_
                    have hbt := bt_le k i
                    refine g_iconst C 1 dX5_hiredFor_83 (by decide) ?_
                    refine g_icmpN_ne C 91 ((btS k i)) (1) dX5_hiredFor_84 rfl (by omega) (by omega) (fun c_84 => ?_) (fun c_84 => ?_)
                    · refine g_aloadn C dX5_hiredFor_91 0 rfl rfl ?_
                      refine g_iload C dX5_hiredFor_92 4 rfl ?_
                      refine g_iconst C 0 dX5_hiredFor_94 (by decide) ?_
                      refine g_callAi C (rd_V C (k_X5_its l D q tt a ((shS (m_s v) i k), (m_held v), as, (m_before v), (cp47 (m_s v) (m_untried v)), (m_isHeld v), (m_tape v), (m_taped v), (m_token v), (m_from v), (m_to v), (m_value v), (m_isWrong v), hd, mv, (m_rows v), (m_rowN v), (m_sortOf v), (m_sizeOf v), (m_numbers v), (m_holdsWhat v), (m_holdsWhich v), (m_holdsMany v), (m_bodies v), (m_ran v), (m_actKind v), (m_actN v), (m_actA v), (m_isParted v)) i 0 (by first | assumption | omega) (by first | assumption | omega)) gX5_hiredFor_X5_its rfl rfl rfl 2 ok_X5_its rfl 0 rfl rfl (rest := [.int (7 + (5 * (nI i))), .ref (a 1)]) rfl rfl (Nat.le_of_ble_eq_true rfl) dX5_hiredFor_95 ⟨(Nat.le_of_ble_eq_true rfl), (Nat.le_of_ble_eq_true rfl)⟩ ⟨(Nat.le_of_ble_eq_true rfl), (Nat.le_of_ble_eq_true rfl)⟩) (fun r_95 _ h_95 => ?_)
                      obtain rfl := h_95
                      refine g_topci ((shS (m_s v) i k) (7 + 5 * i + 0)) rfl ?_
                      refine g_iast C 1 ((7 + (5 * i))) (f := (shS (m_s v) i k)) rfl (ix_add rfl (ix_mul rfl rfl)) (by omega) (by decide) dX5_hiredFor_98 (mw q a ((upd (shS (m_s v) i k) (7 + (5 * i)) ((shS (m_s v) i k) (7 + 5 * i + 0))), (m_held v), as, (m_before v), (cp47 (m_s v) (m_untried v)), (m_isHeld v), (m_tape v), (m_taped v), (m_token v), (m_from v), (m_to v), (m_value v), (m_isWrong v), hd, mv, (m_rows v), (m_rowN v), (m_sortOf v), (m_sizeOf v), (m_numbers v), (m_holdsWhat v), (m_holdsWhich v), (m_holdsMany v), (m_bodies v), (m_ran v), (m_actKind v), (m_actN v), (m_actA v), (m_isParted v))) rfl ?_
                      refine g_wsc (mw q a ((shS (m_s v) (i + 1) k), (m_held v), as, (m_before v), (cp47 (m_s v) (m_untried v)), (m_isHeld v), (m_tape v), (m_taped v), (m_token v), (m_from v), (m_to v), (m_value v), (m_isWrong v), hd, mv, (m_rows v), (m_rowN v), (m_sortOf v), (m_sizeOf v), (m_numbers v), (m_holdsWhat v), (m_holdsWhich v), (m_holdsMany v), (m_bodies v), (m_ran v), (m_actKind v), (m_actN v), (m_actA v), (m_isParted v))) (by rw [sh_step (by first | exact (if_pos c_84).symm | (rw [if_neg c_84]; exact sh_out (Or.inr (by omega))))]) ?_
                      refine g_iinc C (nI (i + 1)) [(4, .int (nI (i + 1))), (0, .ref (a 0)), (1, .int x), (2, .int b), (3, .int (nI k))] dX5_hiredFor_99 4 rfl (nI_add i 1) (by decide) rfl ?_
                      refine g_goto C 55 dX5_hiredFor_102 rfl ?_
                      refine g_sub [1, 2, 3, 4, 0] (lv' := [(0, .ref (a 0)), (1, .int x), (2, .int b), (3, .int (nI k)), (4, .int (nI (i + 1)))]) rfl ?_
                      exact ih_55 ((i + 1)) (by omega) (by first | assumption | omega)
                    · refine g_iconst C 2 dX5_hiredFor_87 (by decide) ?_
                      refine g_goto C 98 dX5_hiredFor_88 rfl ?_
                      refine g_iast C 1 ((7 + (5 * i))) (f := (shS (m_s v) i k)) rfl (ix_add rfl (ix_mul rfl rfl)) (by omega) (by decide) dX5_hiredFor_98 (mw q a ((upd (shS (m_s v) i k) (7 + (5 * i)) 2), (m_held v), as, (m_before v), (cp47 (m_s v) (m_untried v)), (m_isHeld v), (m_tape v), (m_taped v), (m_token v), (m_from v), (m_to v), (m_value v), (m_isWrong v), hd, mv, (m_rows v), (m_rowN v), (m_sortOf v), (m_sizeOf v), (m_numbers v), (m_holdsWhat v), (m_holdsWhich v), (m_holdsMany v), (m_bodies v), (m_ran v), (m_actKind v), (m_actN v), (m_actA v), (m_isParted v))) rfl ?_
                      refine g_wsc (mw q a ((shS (m_s v) (i + 1) k), (m_held v), as, (m_before v), (cp47 (m_s v) (m_untried v)), (m_isHeld v), (m_tape v), (m_taped v), (m_token v), (m_from v), (m_to v), (m_value v), (m_isWrong v), hd, mv, (m_rows v), (m_rowN v), (m_sortOf v), (m_sizeOf v), (m_numbers v), (m_holdsWhat v), (m_holdsWhich v), (m_holdsMany v), (m_bodies v), (m_ran v), (m_actKind v), (m_actN v), (m_actA v), (m_isParted v))) (by rw [sh_step (by first | exact (if_pos c_84).symm | (rw [if_neg c_84]; exact sh_out (Or.inr (by omega))))]) ?_
                      refine g_iinc C (nI (i + 1)) [(4, .int (nI (i + 1))), (0, .ref (a 0)), (1, .int x), (2, .int b), (3, .int (nI k))] dX5_hiredFor_99 4 rfl (nI_add i 1) (by decide) rfl ?_
                      refine g_goto C 55 dX5_hiredFor_102 rfl ?_
                      refine g_sub [1, 2, 3, 4, 0] (lv' := [(0, .ref (a 0)), (1, .int x), (2, .int b), (3, .int (nI k)), (4, .int (nI (i + 1)))]) rfl ?_
                      exact ih_55 ((i + 1)) (by omega) (by first | assumption | omega)
              refine g_wsc (mw q a ((shS (m_s v) 0 k), (m_held v), as, (m_before v), (cp47 (m_s v) (m_untried v)), (m_isHeld v), (m_tape v), (m_taped v), (m_token v), (m_from v), (m_to v), (m_value v), (m_isWrong v), hd, mv, (m_rows v), (m_rowN v), (m_sortOf v), (m_sizeOf v), (m_numbers v), (m_holdsWhat v), (m_holdsWhich v), (m_holdsMany v), (m_bodies v), (m_ran v), (m_actKind v), (m_actN v), (m_actA v), (m_isParted v))) (by rw [sh_0]) ?_
              refine g_sub [1, 2, 3, 4, 0] (lv' := [(0, .ref (a 0)), (1, .int x), (2, .int b), (3, .int (nI k)), (4, .int 0)]) rfl ?_
              exact J_55 _ (0) (Nat.lt_succ_self _) (by first | assumption | omega)
    refine g_sub [2, 3, 1, 0] (lv' := [(0, .ref (a 0)), (1, .int x), (2, .int (-3)), (3, .int 0)]) rfl ?_
    exact J_25 _ (0) ((-3)) ((m_aside v)) ((m_heard v)) ((m_isMoved v)) (Nat.lt_succ_self _) (by first | assumption | omega) ls_nil
  · refine g_iconst C (-1) dX5_hiredFor_7 (by decide) ?_
    exact g_iret C ((m_aside v), (m_untried v), (m_heard v), (m_isMoved v)) hr dX5_hiredFor_8 (Nat.le_of_ble_eq_true rfl) (Nat.le_of_ble_eq_true rfl) rfl (Or.inr ⟨c_4, rfl⟩)

