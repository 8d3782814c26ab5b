set_option maxRecDepth 100000 in
set_option maxHeartbeats 4000000 in
theorem k_X5_begunFor (l : Launch) (D : va_G) (q : Nat → ClassId) (tt : Nat → Nat) (a : Nat → Nat) (v : MC) (N : Nat) (x : Int32) (y : Int32) (hG : Gd (m_s v) N) : MI l D q tt yX5_begunFor wsX5_begunFor ({ frames := 7, cells := 0, slots := 0, locals := 156 } : Room) [.ref (a 0), .int x, .int y] (mw q a v) (fun (r : Int32) (u : (Nat → Int32) × (Nat → Int32) × (Nat → Int32) × (Nat → Int32)) => P_begunFor (m_s v) N x y r) (fun u => (mw q a ((m_s v), (m_held v), u.1, (m_before v), u.2.1, (m_isHeld v), (m_tape v), (m_taped v), (m_token v), (m_from v), (m_to v), (m_value v), (m_isWrong v), u.2.2.1, u.2.2.2, (m_rows v), (m_rowN v), (m_sortOf v), (m_sizeOf v), (m_numbers v), (m_holdsWhat v), (m_holdsWhich v), (m_holdsMany v), (m_bodies v), (m_ran v), (m_actKind v), (m_actN v), (m_actA v), (m_isParted v)))) 0 0 := by
  refine MI.of RX5 [(0, .ref (a 0)), (1, .int x), (2, .int y)] (by decide) rfl rfl (Nat.le_of_ble_eq_true rfl) rfl ?_
  intro p e s m args below meth c A C hr hnm
  have w_0 : ∀ w ∈ u_ws RX5 TX5 29, w ∈ wsX5_begunFor := by decide +kernel
  have w_1 : Cond.fieldLink RX5 7 (TX5 0).1 (TX5 0).2.1 (TX5 0).2.2.1 ∈ wsX5_begunFor := by decide +kernel
  have w_2 : Cond.fieldLink RX5 22 (TX5 4).1 (TX5 4).2.1 (TX5 4).2.2.1 ∈ wsX5_begunFor := by decide +kernel
  have h8 := hG.le
  obtain ⟨M, hM, hM1, hM8⟩ : ∃ M, M = 2 ^ N ∧ 1 ≤ M ∧ M ≤ 256 := ⟨2 ^ N, rfl, Nat.two_pow_pos N, Nat.pow_le_pow_right (n := 2) (by omega) h8⟩
  have hPw : (1 : Int32) <<< (nI N &&& 31) = nI M := by rw [hM]; exact sh_pow N (by omega)
  refine g_aloadn C dX5_begunFor_0 0 rfl rfl ?_
  refine g_iloadn C dX5_begunFor_1 1 rfl rfl ?_
  refine g_callAi C (rd_V C (k_X5_isOne l D q tt a v x ) gX5_begunFor_X5_isOne rfl rfl rfl 1 ok_X5_isOne rfl 0 rfl rfl (rest := []) rfl rfl (Nat.le_of_ble_eq_true rfl) dX5_begunFor_2 ⟨(Nat.le_of_ble_eq_true rfl), (Nat.le_of_ble_eq_true rfl)⟩ ⟨(Nat.le_of_ble_eq_true rfl), (Nat.le_of_ble_eq_true rfl)⟩) (fun r_2 _ h_2 => ?_)
  obtain rfl := h_2
  refine g_ifeqE C 15 dX5_begunFor_5 rfl rfl (fun c_5 => ?_) (fun c_5 => ?_)
  · refine g_iconst C (-1) dX5_begunFor_15 (by decide) ?_
    exact g_iret C ((m_aside v), (m_untried v), (m_heard v), (m_isMoved v)) hr dX5_begunFor_16 (Nat.le_of_ble_eq_true rfl) (Nat.le_of_ble_eq_true rfl) rfl (Or.inr ⟨(fun z => by first | exact c_5 z.1 | exact c_12 z.2), rfl⟩)
  · refine g_iloadn C dX5_begunFor_8 2 rfl rfl ?_
    refine g_call0i C (rd_S C (k_X5_isShort l D q tt y ) gX5_begunFor_X5_isShort rfl rfl rfl 1 ok_X5_isShort (rest := []) rfl rfl (Nat.le_of_ble_eq_true rfl) dX5_begunFor_9 ⟨(Nat.le_of_ble_eq_true rfl), (Nat.le_of_ble_eq_true rfl)⟩ ⟨(Nat.le_of_ble_eq_true rfl), (Nat.le_of_ble_eq_true rfl)⟩) (fun _ => rfl) (fun r_9 _ h_9 => ?_)
    obtain rfl := h_9
    refine g_ifneE C 17 dX5_begunFor_12 rfl rfl (fun c_12 => ?_) (fun c_12 => ?_)
    · obtain ⟨j, hj, ej, ec⟩ := ix_one hG c_5
      obtain ⟨n, hn, en, ed⟩ := ix_le (n := 20) (by omega) ⟨Int32.le_trans (by decide) c_12.1, c_12.2⟩
      refine g_aloadn C dX5_begunFor_17 0 rfl rfl ?_
      refine g_get C fx5 w_0 0 0 (v := .ref (a 1)) rfl (by decide) w_1 rfl dX5_begunFor_18 ?_
      refine g_aloadn C dX5_begunFor_21 0 rfl rfl ?_
      refine g_get C fx5 w_0 0 4 (v := .ref (a 5)) rfl (by decide) w_2 rfl dX5_begunFor_22 ?_
      refine g_callWv (w1 := (mw q a v)) (wr := ([0, 2, 3, 4, 6, 7, 8, 9, 10, 11, 12, 13, 14, 15, 16] : List Nat).filterMap (fun i => (mw q a v)[i]?)) (isC := [1, 5]) (isR := [0, 2, 3, 4, 6, 7, 8, 9, 10, 11, 12, 13, 14, 15, 16]) (pm := [0, 15, 1, 2, 3, 16, 4, 5, 6, 7, 8, 9, 10, 11, 12, 13, 14]) (w1' := (fun _ => (mw q a ((m_s v), (m_held v), (m_aside v), (m_before v), (cp47 (m_s v) (m_untried v)), (m_isHeld v), (m_tape v), (m_taped v), (m_token v), (m_from v), (m_to v), (m_value v), (m_isWrong v), (m_heard v), (m_isMoved v), (m_rows v), (m_rowN v), (m_sortOf v), (m_sizeOf v), (m_numbers v), (m_holdsWhat v), (m_holdsWhich v), (m_holdsMany v), (m_bodies v), (m_ran v), (m_actKind v), (m_actN v), (m_actA v), (m_isParted v))))) C (rd_S C (k_X5_copyRow l D q tt (a 1) (a 5) (m_s v) (m_untried v) ) gX5_begunFor_X5_copyRow rfl rfl rfl 2 ok_X5_copyRow (rest := []) rfl rfl (Nat.le_of_ble_eq_true rfl) dX5_begunFor_25 ⟨(Nat.le_of_ble_eq_true rfl), (Nat.le_of_ble_eq_true rfl)⟩ ⟨(Nat.le_of_ble_eq_true rfl), (Nat.le_of_ble_eq_true rfl)⟩) rfl rfl rfl (fun _ => rfl) rfl (fun _ h_25 => ?_)
      refine g_bipush C (-3) dX5_begunFor_28 (by decide) ?_
      refine g_istoren C [(3, .int (-3)), (0, .ref (a 0)), (1, .int x), (2, .int y)] dX5_begunFor_30 rfl (by decide) rfl ?_
      refine g_iconst C 0 dX5_begunFor_31 (by decide) ?_
      refine g_istore C [(4, .int 0), (3, .int (-3)), (0, .ref (a 0)), (1, .int x), (2, .int y)] dX5_begunFor_32 (by decide) rfl ?_
      have J_34 : ∀ (fu : Nat) (k : Nat) (b : Int32) (T : Nat → Int32) (as : Nat → Int32) (hd : Nat → Int32) (mv : Nat → Int32), M - k < fu → (k ≤ M) → (lsS (bgG (m_s v) N j n) k b) → (∀ k_, scS T N k_ = scS (m_s v) N k_) → (∀ q, q < 7 ∨ 47 ≤ q → T q = (m_s v) q) → G p l e ({ frames := 7, cells := 0, slots := 0, locals := 156 } : Room) s m args below meth c 6 D A (MQ below (va_Qi (fun (r : Int32) (u : (Nat → Int32) × (Nat → Int32) × (Nat → Int32) × (Nat → Int32)) => P_begunFor (m_s v) N x y r) (Bw D A (fun u => (mw q a ((m_s v), (m_held v), u.1, (m_before v), u.2.1, (m_isHeld v), (m_tape v), (m_taped v), (m_token v), (m_from v), (m_to v), (m_value v), (m_isWrong v), u.2.2.1, u.2.2.2, (m_rows v), (m_rowN v), (m_sortOf v), (m_sizeOf v), (m_numbers v), (m_holdsWhat v), (m_holdsWhich v), (m_holdsMany v), (m_bodies v), (m_ran v), (m_actKind v), (m_actN v), (m_actA v), (m_isParted v))))) A) args s 0 0 A) 34 [(0, .ref (a 0)), (1, .int x), (2, .int y), (3, .int b), (4, .int (nI k))] [] (mw q a (T, (m_held v), as, (m_before v), (cp47 (m_s v) (m_untried v)), (m_isHeld v), (m_tape v), (m_taped v), (m_token v), (m_from v), (m_to v), (m_value v), (m_isWrong v), hd, mv, (m_rows v), (m_rowN v), (m_sortOf v), (m_sizeOf v), (m_numbers v), (m_holdsWhat v), (m_holdsWhich v), (m_holdsMany v), (m_bodies v), (m_ran v), (m_actKind v), (m_actN v), (m_actA v), (m_isParted v))) 0 0 := by
        intro fu
        induction fu with
        | zero =>
          intro k b T as hd mv hfu
          exact absurd hfu (Nat.not_lt_zero _)
        | succ fu ih_34 =>
          intro k b T as hd mv hfu hk hb hT hT7
          refine g_iload C dX5_begunFor_34 4 rfl ?_
          refine g_iconst C 1 dX5_begunFor_36 (by decide) ?_
          refine g_aloadn C dX5_begunFor_37 0 rfl rfl ?_
          refine g_get C fx5 w_0 0 0 (v := .ref (a 1)) rfl (by decide) w_1 rfl dX5_begunFor_38 ?_
          refine g_iconst C 0 dX5_begunFor_41 (by decide) ?_
          refine g_iald C 1 (0) (f := T) rfl rfl (by omega) (by decide) dX5_begunFor_42 ?_
          refine g_topci (nI N) ((hT7 0 (by omega)).trans hG.n) ?_
          refine g_ishl C dX5_begunFor_43 ?_
          refine g_topci (nI M) (hPw) ?_
          refine g_icmpN_ge C 139 (k) (M) dX5_begunFor_44 rfl (by omega) (by omega) (fun c_44 => ?_) (fun c_44 => ?_)
          · refine g_aloadn C dX5_begunFor_139 0 rfl rfl ?_
            refine g_get C fx5 w_0 0 4 (v := .ref (a 5)) rfl (by decide) w_2 rfl dX5_begunFor_140 ?_
            refine g_aloadn C dX5_begunFor_143 0 rfl rfl ?_
            refine g_get C fx5 w_0 0 0 (v := .ref (a 1)) rfl (by decide) w_1 rfl dX5_begunFor_144 ?_
            refine g_callWv (w1 := (mw q a (T, (m_held v), as, (m_before v), (cp47 (m_s v) (m_untried v)), (m_isHeld v), (m_tape v), (m_taped v), (m_token v), (m_from v), (m_to v), (m_value v), (m_isWrong v), hd, mv, (m_rows v), (m_rowN v), (m_sortOf v), (m_sizeOf v), (m_numbers v), (m_holdsWhat v), (m_holdsWhich v), (m_holdsMany v), (m_bodies v), (m_ran v), (m_actKind v), (m_actN v), (m_actA v), (m_isParted v)))) (wr := ([0, 2, 3, 4, 6, 7, 8, 9, 10, 11, 12, 13, 14, 15, 16] : List Nat).filterMap (fun i => (mw q a (T, (m_held v), as, (m_before v), (cp47 (m_s v) (m_untried v)), (m_isHeld v), (m_tape v), (m_taped v), (m_token v), (m_from v), (m_to v), (m_value v), (m_isWrong v), hd, mv, (m_rows v), (m_rowN v), (m_sortOf v), (m_sizeOf v), (m_numbers v), (m_holdsWhat v), (m_holdsWhich v), (m_holdsMany v), (m_bodies v), (m_ran v), (m_actKind v), (m_actN v), (m_actA v), (m_isParted v)))[i]?)) (isC := [5, 1]) (isR := [0, 2, 3, 4, 6, 7, 8, 9, 10, 11, 12, 13, 14, 15, 16]) (pm := [0, 16, 1, 2, 3, 15, 4, 5, 6, 7, 8, 9, 10, 11, 12, 13, 14]) (w1' := (fun _ => (mw q a ((cp47 (cp47 (m_s v) (m_untried v)) T), (m_held v), as, (m_before v), (cp47 (m_s v) (m_untried v)), (m_isHeld v), (m_tape v), (m_taped v), (m_token v), (m_from v), (m_to v), (m_value v), (m_isWrong v), hd, mv, (m_rows v), (m_rowN v), (m_sortOf v), (m_sizeOf v), (m_numbers v), (m_holdsWhat v), (m_holdsWhich v), (m_holdsMany v), (m_bodies v), (m_ran v), (m_actKind v), (m_actN v), (m_actA v), (m_isParted v))))) C (rd_S C (k_X5_copyRow l D q tt (a 5) (a 1) (cp47 (m_s v) (m_untried v)) T ) gX5_begunFor_X5_copyRow rfl rfl rfl 2 ok_X5_copyRow (rest := []) rfl rfl (Nat.le_of_ble_eq_true rfl) dX5_begunFor_147 ⟨(Nat.le_of_ble_eq_true rfl), (Nat.le_of_ble_eq_true rfl)⟩ ⟨(Nat.le_of_ble_eq_true rfl), (Nat.le_of_ble_eq_true rfl)⟩) rfl rfl rfl (fun _ => rfl) rfl (fun _ h_147 => ?_)
            refine g_wsc (mw q a ((m_s v), (m_held v), as, (m_before v), (cp47 (m_s v) (m_untried v)), (m_isHeld v), (m_tape v), (m_taped v), (m_token v), (m_from v), (m_to v), (m_value v), (m_isWrong v), hd, mv, (m_rows v), (m_rowN v), (m_sortOf v), (m_sizeOf v), (m_numbers v), (m_holdsWhat v), (m_holdsWhich v), (m_holdsMany v), (m_bodies v), (m_ran v), (m_actKind v), (m_actN v), (m_actA v), (m_isParted v))) (by first | (rw [cp_back (fun q hq => hT7 q (by omega))]; done) | (rw [cp_back (fun q hq => hT7 q (by omega))]; rfl)) ?_
            refine g_iloadn C dX5_begunFor_150 3 rfl rfl ?_
            exact g_iret C (as, (cp47 (m_s v) (m_untried v)), hd, mv) hr dX5_begunFor_151 (Nat.le_of_ble_eq_true rfl) (Nat.le_of_ble_eq_true rfl) rfl (Or.inl ⟨⟨c_5, c_12⟩, by rw [ec, ed, ← hM, ← show k = M by omega]; exact hb⟩)
          · refine g_iload C dX5_begunFor_47 4 rfl ?_
            refine g_iloadn C dX5_begunFor_49 1 rfl rfl ?_
            refine g_topci (nI j) (ej) ?_
            refine g_ishr C dX5_begunFor_50 ?_
            refine g_iconst C 1 dX5_begunFor_51 (by decide) ?_
            refine g_iand C dX5_begunFor_52 ?_
            refine g_topci (bI (btS k j = 1)) (bt_bI j (by omega) k (by omega)) ?_
            refine g_ifneE C 133 dX5_begunFor_53 rfl rfl (fun c_53 => ?_) (fun c_53 => ?_)
            · refine g_iinc C (nI (k + 1)) [(4, .int (nI (k + 1))), (0, .ref (a 0)), (1, .int x), (2, .int y), (3, .int b)] dX5_begunFor_133 4 rfl (nI_add k 1) (by decide) rfl ?_
              refine g_goto C 34 dX5_begunFor_136 rfl ?_
              refine g_sub [1, 2, 3, 4, 0] (lv' := [(0, .ref (a 0)), (1, .int x), (2, .int y), (3, .int b), (4, .int (nI (k + 1)))]) rfl ?_
              exact ih_34 ((k + 1)) (b) (T) (as) (hd) (mv) (by omega) (by first | assumption | omega) (by first | exact ls_skip hb (fun z => by have z1 := z.1; omega) | (rw [eb]; exact lk_skip hl (by omega)) | exact ls_skip hb (fun z => c_123 ((bt_cl ((Gd_sc hG).gos n) hj).mpr z.2)) | (rw [eb] at hb; exact lk_new hl (by omega) ⟨by have := bt_le k j; omega, (bt_cl ((Gd_sc hG).gos n) hj).mp c_123⟩) | exact l0_new (ls_ng (by omega) hb c_57).2 ⟨by have := bt_le k j; omega, (bt_cl ((Gd_sc hG).gos n) hj).mp c_123⟩) (by first | exact hT | exact (fun k_ => sc_sc (m_s v) N k_ k)) (by first | exact hT7 | exact (fun q hq => sc_out (by omega)))
            · refine g_iloadn C dX5_begunFor_56 3 rfl rfl ?_
              refine g_if_lt C 72 dX5_begunFor_57 rfl (fun c_57 => ?_) (fun c_57 => ?_)
              · refine g_iconst C 0 dX5_begunFor_72 (by decide) ?_
                refine g_istore C [(5, .int 0), (0, .ref (a 0)), (1, .int x), (2, .int y), (3, .int b), (4, .int (nI k))] dX5_begunFor_73 (by decide) rfl ?_
                have J_75 : ∀ (fu : Nat) (i : Nat), N - i < fu → (i ≤ N) → G p l e ({ frames := 7, cells := 0, slots := 0, locals := 156 } : Room) s m args below meth c 6 D A (MQ below (va_Qi (fun (r : Int32) (u : (Nat → Int32) × (Nat → Int32) × (Nat → Int32) × (Nat → Int32)) => P_begunFor (m_s v) N x y r) (Bw D A (fun u => (mw q a ((m_s v), (m_held v), u.1, (m_before v), u.2.1, (m_isHeld v), (m_tape v), (m_taped v), (m_token v), (m_from v), (m_to v), (m_value v), (m_isWrong v), u.2.2.1, u.2.2.2, (m_rows v), (m_rowN v), (m_sortOf v), (m_sizeOf v), (m_numbers v), (m_holdsWhat v), (m_holdsWhich v), (m_holdsMany v), (m_bodies v), (m_ran v), (m_actKind v), (m_actN v), (m_actA v), (m_isParted v))))) A) args s 0 0 A) 75 [(0, .ref (a 0)), (1, .int x), (2, .int y), (3, .int b), (4, .int (nI k)), (5, .int (nI i))] [] (mw q a ((scS T i k), (m_held v), as, (m_before v), (cp47 (m_s v) (m_untried v)), (m_isHeld v), (m_tape v), (m_taped v), (m_token v), (m_from v), (m_to v), (m_value v), (m_isWrong v), hd, mv, (m_rows v), (m_rowN v), (m_sortOf v), (m_sizeOf v), (m_numbers v), (m_holdsWhat v), (m_holdsWhich v), (m_holdsMany v), (m_bodies v), (m_ran v), (m_actKind v), (m_actN v), (m_actA v), (m_isParted v))) 0 0 := by
                  intro fu
                  induction fu with
                  | zero =>
                    intro i hfu
                    exact absurd hfu (Nat.not_lt_zero _)
                  | succ fu ih_75 =>
                    intro i hfu hi
                    refine g_iload C dX5_begunFor_75 5 rfl ?_
                    refine g_aloadn C dX5_begunFor_77 0 rfl rfl ?_
                    refine g_get C fx5 w_0 0 0 (v := .ref (a 1)) rfl (by decide) w_1 rfl dX5_begunFor_78 ?_
                    refine g_iconst C 0 dX5_begunFor_81 (by decide) ?_
                    refine g_iald C 1 (0) (f := (scS T i k)) rfl rfl (by omega) (by decide) dX5_begunFor_82 ?_
                    refine g_topci (nI N) ((sc_out (Or.inl (by omega))).trans ((hT7 0 (by omega)).trans hG.n)) ?_
                    refine g_icmpN_ge C 113 (i) (N) dX5_begunFor_83 rfl (by omega) (by omega) (fun c_83 => ?_) (fun c_83 => ?_)
                    · refine g_wsc (mw q a ((scS (m_s v) N k), (m_held v), as, (m_before v), (cp47 (m_s v) (m_untried v)), (m_isHeld v), (m_tape v), (m_taped v), (m_token v), (m_from v), (m_to v), (m_value v), (m_isWrong v), hd, mv, (m_rows v), (m_rowN v), (m_sortOf v), (m_sizeOf v), (m_numbers v), (m_holdsWhat v), (m_holdsWhich v), (m_holdsMany v), (m_bodies v), (m_ran v), (m_actKind v), (m_actN v), (m_actA v), (m_isParted v))) (by rw [show i = N by omega, hT]) ?_
                      refine g_aloadn C dX5_begunFor_113 0 rfl rfl ?_
                      refine g_iloadn C dX5_begunFor_114 2 rfl rfl ?_
                      refine g_topci (nI n) (en) ?_
                      refine g_callAi C (rd_V C (k_X5_clappingBehind l D q tt a ((scS (m_s v) N k), (m_held v), as, (m_before v), (cp47 (m_s v) (m_untried v)), (m_isHeld v), (m_tape v), (m_taped v), (m_token v), (m_from v), (m_to v), (m_value v), (m_isWrong v), hd, mv, (m_rows v), (m_rowN v), (m_sortOf v), (m_sizeOf v), (m_numbers v), (m_holdsWhat v), (m_holdsWhich v), (m_holdsMany v), (m_bodies v), (m_ran v), (m_actKind v), (m_actN v), (m_actA v), (m_isParted v)) N n (Gd_sc hG) (by first | assumption | omega)) gX5_begunFor_X5_clappingBehind rfl rfl rfl 1 ok_X5_clappingBehind rfl 0 rfl rfl (rest := []) rfl rfl (Nat.le_of_ble_eq_true rfl) dX5_begunFor_115 ⟨(Nat.le_of_ble_eq_true rfl), (Nat.le_of_ble_eq_true rfl)⟩ ⟨(Nat.le_of_ble_eq_true rfl), (Nat.le_of_ble_eq_true rfl)⟩) (fun r_115 u_115 h_115 => ?_)
                      obtain rfl := h_115
                      refine g_wsc (mw q a ((scS (m_s v) N k), (m_held v), u_115.1, (m_before v), (cp47 (m_s v) (m_untried v)), (m_isHeld v), (m_tape v), (m_taped v), (m_token v), (m_from v), (m_to v), (m_value v), (m_isWrong v), u_115.2.1, u_115.2.2, (m_rows v), (m_rowN v), (m_sortOf v), (m_sizeOf v), (m_numbers v), (m_holdsWhat v), (m_holdsWhich v), (m_holdsMany v), (m_bodies v), (m_ran v), (m_actKind v), (m_actN v), (m_actA v), (m_isParted v))) rfl ?_
                      refine g_topci (clS (gosS (scS (m_s v) N k) N n) N) rfl ?_
                      refine g_topci (nI (clN (gosS (scS (m_s v) N k) N n) N)) (rfl) ?_
                      have hbt := bt_le (clN (gosS (scS (m_s v) N k) N n) N) j
                      refine g_iloadn C dX5_begunFor_118 1 rfl rfl ?_
                      refine g_topci (nI j) (ej) ?_
                      refine g_ishr C dX5_begunFor_119 ?_
                      refine g_iconst C 1 dX5_begunFor_120 (by decide) ?_
                      refine g_iand C dX5_begunFor_121 ?_
                      refine g_topci (nI (btS (clN (gosS (scS (m_s v) N k) N n) N) j)) (bt_shr j (by omega) _ (clN_256 h8)) ?_
                      refine g_iconst C 1 dX5_begunFor_122 (by decide) ?_
                      refine g_icmpN_ne C 131 ((btS (clN (gosS (scS (m_s v) N k) N n) N) j)) (1) dX5_begunFor_123 rfl (by omega) (by omega) (fun c_123 => ?_) (fun c_123 => ?_)
                      · refine g_iloadn C dX5_begunFor_131 3 rfl rfl ?_
                        refine g_istoren C [(3, .int b), (0, .ref (a 0)), (1, .int x), (2, .int y), (4, .int (nI k)), (5, .int (nI i))] dX5_begunFor_132 rfl (by decide) rfl ?_
                        refine g_iinc C (nI (k + 1)) [(4, .int (nI (k + 1))), (3, .int b), (0, .ref (a 0)), (1, .int x), (2, .int y), (5, .int (nI i))] dX5_begunFor_133 4 rfl (nI_add k 1) (by decide) rfl ?_
                        refine g_goto C 34 dX5_begunFor_136 rfl ?_
                        refine g_sub [2, 3, 4, 1, 0] (lv' := [(0, .ref (a 0)), (1, .int x), (2, .int y), (3, .int b), (4, .int (nI (k + 1)))]) rfl ?_
                        exact ih_34 ((k + 1)) (b) ((scS (m_s v) N k)) (u_115.1) (u_115.2.1) (u_115.2.2) (by omega) (by first | assumption | omega) (by first | exact ls_skip hb (fun z => by have z1 := z.1; omega) | (rw [eb]; exact lk_skip hl (by omega)) | exact ls_skip hb (fun z => c_123 ((bt_cl ((Gd_sc hG).gos n) hj).mpr z.2)) | (rw [eb] at hb; exact lk_new hl (by omega) ⟨by have := bt_le k j; omega, (bt_cl ((Gd_sc hG).gos n) hj).mp c_123⟩) | exact l0_new (ls_ng (by omega) hb c_57).2 ⟨by have := bt_le k j; omega, (bt_cl ((Gd_sc hG).gos n) hj).mp c_123⟩) (by first | exact hT | exact (fun k_ => sc_sc (m_s v) N k_ k)) (by first | exact hT7 | exact (fun q hq => sc_out (by omega)))
                      · refine g_iload C dX5_begunFor_126 4 rfl ?_
                        refine g_goto C 132 dX5_begunFor_128 rfl ?_
                        refine g_istoren C [(3, .int (nI k)), (0, .ref (a 0)), (1, .int x), (2, .int y), (4, .int (nI k)), (5, .int (nI i))] dX5_begunFor_132 rfl (by decide) rfl ?_
                        refine g_iinc C (nI (k + 1)) [(4, .int (nI (k + 1))), (3, .int (nI k)), (0, .ref (a 0)), (1, .int x), (2, .int y), (5, .int (nI i))] dX5_begunFor_133 4 rfl (nI_add k 1) (by decide) rfl ?_
                        refine g_goto C 34 dX5_begunFor_136 rfl ?_
                        refine g_sub [2, 3, 4, 1, 0] (lv' := [(0, .ref (a 0)), (1, .int x), (2, .int y), (3, .int (nI k)), (4, .int (nI (k + 1)))]) rfl ?_
                        exact ih_34 ((k + 1)) ((nI k)) ((scS (m_s v) N k)) (u_115.1) (u_115.2.1) (u_115.2.2) (by omega) (by first | assumption | omega) (by first | exact ls_skip hb (fun z => by have z1 := z.1; omega) | (rw [eb]; exact lk_skip hl (by omega)) | exact ls_skip hb (fun z => c_123 ((bt_cl ((Gd_sc hG).gos n) hj).mpr z.2)) | (rw [eb] at hb; exact lk_new hl (by omega) ⟨by have := bt_le k j; omega, (bt_cl ((Gd_sc hG).gos n) hj).mp c_123⟩) | exact l0_new (ls_ng (by omega) hb c_57).2 ⟨by have := bt_le k j; omega, (bt_cl ((Gd_sc hG).gos n) hj).mp c_123⟩) (by first | exact hT | exact (fun k_ => sc_sc (m_s v) N k_ k)) (by first | exact hT7 | exact (fun q hq => sc_out (by omega)))
                    · refine g_aloadn C dX5_begunFor_86 0 rfl rfl ?_
                      refine g_get C fx5 w_0 0 0 (v := .ref (a 1)) rfl (by decide) w_1 rfl dX5_begunFor_87 ?_
                      refine g_bipush C 7 dX5_begunFor_90 (by decide) ?_
                      refine g_iconst C 5 dX5_begunFor_92 (by decide) ?_
                      refine g_iload C dX5_begunFor_93 5 rfl ?_
                      refine g_imul C dX5_begunFor_95 ?_
                      refine g_iadd C dX5_begunFor_96 ?_
                      refine g_iconst C 4 dX5_begunFor_97 (by decide) ?_
                      refine g_iadd C dX5_begunFor_98 ?_
                      refine g_iload C dX5_begunFor_99 4 rfl ?_
                      refine g_iload C dX5_begunFor_101 5 rfl ?_
                      refine g_ishr C dX5_begunFor_103 ?_
                      refine g_iconst C 1 dX5_begunFor_104 (by decide) ?_
                      refine g_iand C dX5_begunFor_105 ?_
                      refine g_topci (nI (btS k i)) (bt_shr i (by omega) k (by omega)) ?_
                      refine g_iast C 1 (((7 + (5 * i)) + 4)) (f := (scS T i k)) rfl (ix_add (ix_add rfl (ix_mul rfl rfl)) rfl) (by omega) (by decide) dX5_begunFor_106 (mw q a ((upd (scS T i k) ((7 + (5 * i)) + 4) (nI (btS k i))), (m_held v), as, (m_before v), (cp47 (m_s v) (m_untried v)), (m_isHeld v), (m_tape v), (m_taped v), (m_token v), (m_from v), (m_to v), (m_value v), (m_isWrong v), hd, mv, (m_rows v), (m_rowN v), (m_sortOf v), (m_sizeOf v), (m_numbers v), (m_holdsWhat v), (m_holdsWhich v), (m_holdsMany v), (m_bodies v), (m_ran v), (m_actKind v), (m_actN v), (m_actA v), (m_isParted v))) rfl ?_
                      refine g_wsc (mw q a ((scS T (i + 1) k), (m_held v), as, (m_before v), (cp47 (m_s v) (m_untried v)), (m_isHeld v), (m_tape v), (m_taped v), (m_token v), (m_from v), (m_to v), (m_value v), (m_isWrong v), hd, mv, (m_rows v), (m_rowN v), (m_sortOf v), (m_sizeOf v), (m_numbers v), (m_holdsWhat v), (m_holdsWhich v), (m_holdsMany v), (m_bodies v), (m_ran v), (m_actKind v), (m_actN v), (m_actA v), (m_isParted v))) (by first | (rw [sc_step]; done) | (rw [sc_step]; rfl)) ?_
                      refine g_iinc C (nI (i + 1)) [(5, .int (nI (i + 1))), (0, .ref (a 0)), (1, .int x), (2, .int y), (3, .int b), (4, .int (nI k))] dX5_begunFor_107 5 rfl (nI_add i 1) (by decide) rfl ?_
                      refine g_goto C 75 dX5_begunFor_110 rfl ?_
                      refine g_sub [1, 2, 3, 4, 5, 0] (lv' := [(0, .ref (a 0)), (1, .int x), (2, .int y), (3, .int b), (4, .int (nI k)), (5, .int (nI (i + 1)))]) rfl ?_
                      exact ih_75 ((i + 1)) (by omega) (by first | assumption | omega)
                refine g_wsc (mw q a ((scS T 0 k), (m_held v), as, (m_before v), (cp47 (m_s v) (m_untried v)), (m_isHeld v), (m_tape v), (m_taped v), (m_token v), (m_from v), (m_to v), (m_value v), (m_isWrong v), hd, mv, (m_rows v), (m_rowN v), (m_sortOf v), (m_sizeOf v), (m_numbers v), (m_holdsWhat v), (m_holdsWhich v), (m_holdsMany v), (m_bodies v), (m_ran v), (m_actKind v), (m_actN v), (m_actA v), (m_isParted v))) (by rw [sc_0]) ?_
                refine g_sub [1, 2, 3, 4, 5, 0] (lv' := [(0, .ref (a 0)), (1, .int x), (2, .int y), (3, .int b), (4, .int (nI k)), (5, .int 0)]) rfl ?_
                exact J_75 _ (0) (Nat.lt_succ_self _) (by first | assumption | omega)
              · obtain ⟨kb, eb, hl⟩ := ls_nn hb c_57
                have pk1 := pop_le k (by omega)
                have pk2 := pop_le kb (Nat.lt_of_lt_of_le hl.1 (by omega))
                refine g_iload C dX5_begunFor_60 4 rfl ?_
                refine g_call0i C (rd_S C (k_X5_size l D q tt k (by omega)) gX5_begunFor_X5_size rfl rfl rfl 1 ok_X5_size (rest := []) rfl rfl (Nat.le_of_ble_eq_true rfl) dX5_begunFor_62 ⟨(Nat.le_of_ble_eq_true rfl), (Nat.le_of_ble_eq_true rfl)⟩ ⟨(Nat.le_of_ble_eq_true rfl), (Nat.le_of_ble_eq_true rfl)⟩) (fun _ => rfl) (fun r_62 _ h_62 => ?_)
                obtain rfl := h_62
                refine g_iloadn C dX5_begunFor_65 3 rfl rfl ?_
                refine g_topci (nI kb) (eb) ?_
                refine g_call0i C (rd_S C (k_X5_size l D q tt kb (Nat.lt_of_lt_of_le hl.1 (by omega))) gX5_begunFor_X5_size rfl rfl rfl 1 ok_X5_size (rest := [.int (nI (pop k))]) rfl rfl (Nat.le_of_ble_eq_true rfl) dX5_begunFor_66 ⟨(Nat.le_of_ble_eq_true rfl), (Nat.le_of_ble_eq_true rfl)⟩ ⟨(Nat.le_of_ble_eq_true rfl), (Nat.le_of_ble_eq_true rfl)⟩) (fun _ => rfl) (fun r_66 _ h_66 => ?_)
                obtain rfl := h_66
                refine g_icmpN_ge C 133 ((pop k)) ((pop kb)) dX5_begunFor_69 rfl (by omega) (by omega) (fun c_69 => ?_) (fun c_69 => ?_)
                · refine g_iinc C (nI (k + 1)) [(4, .int (nI (k + 1))), (0, .ref (a 0)), (1, .int x), (2, .int y), (3, .int b)] dX5_begunFor_133 4 rfl (nI_add k 1) (by decide) rfl ?_
                  refine g_goto C 34 dX5_begunFor_136 rfl ?_
                  refine g_sub [1, 2, 3, 4, 0] (lv' := [(0, .ref (a 0)), (1, .int x), (2, .int y), (3, .int b), (4, .int (nI (k + 1)))]) rfl ?_
                  exact ih_34 ((k + 1)) (b) (T) (as) (hd) (mv) (by omega) (by first | assumption | omega) (by first | exact ls_skip hb (fun z => by have z1 := z.1; omega) | (rw [eb]; exact lk_skip hl (by omega)) | exact ls_skip hb (fun z => c_123 ((bt_cl ((Gd_sc hG).gos n) hj).mpr z.2)) | (rw [eb] at hb; exact lk_new hl (by omega) ⟨by have := bt_le k j; omega, (bt_cl ((Gd_sc hG).gos n) hj).mp c_123⟩) | exact l0_new (ls_ng (by omega) hb c_57).2 ⟨by have := bt_le k j; omega, (bt_cl ((Gd_sc hG).gos n) hj).mp c_123⟩) (by first | exact hT | exact (fun k_ => sc_sc (m_s v) N k_ k)) (by first | exact hT7 | exact (fun q hq => sc_out (by omega)))
                · refine g_iconst C 0 dX5_begunFor_72 (by decide) ?_
                  refine g_istore C [(5, .int 0), (0, .ref (a 0)), (1, .int x), (2, .int y), (3, .int b), (4, .int (nI k))] dX5_begunFor_73 (by decide) rfl ?_
                  have J_75 : ∀ (fu : Nat) (i : Nat), N - i < fu → (i ≤ N) → G p l e ({ frames := 7, cells := 0, slots := 0, locals := 156 } : Room) s m args below meth c 6 D A (MQ below (va_Qi (fun (r : Int32) (u : (Nat → Int32) × (Nat → Int32) × (Nat → Int32) × (Nat → Int32)) => P_begunFor (m_s v) N x y r) (Bw D A (fun u => (mw q a ((m_s v), (m_held v), u.1, (m_before v), u.2.1, (m_isHeld v), (m_tape v), (m_taped v), (m_token v), (m_from v), (m_to v), (m_value v), (m_isWrong v), u.2.2.1, u.2.2.2, (m_rows v), (m_rowN v), (m_sortOf v), (m_sizeOf v), (m_numbers v), (m_holdsWhat v), (m_holdsWhich v), (m_holdsMany v), (m_bodies v), (m_ran v), (m_actKind v), (m_actN v), (m_actA v), (m_isParted v))))) A) args s 0 0 A) 75 [(0, .ref (a 0)), (1, .int x), (2, .int y), (3, .int b), (4, .int (nI k)), (5, .int (nI i))] [] (mw q a ((scS T i k), (m_held v), as, (m_before v), (cp47 (m_s v) (m_untried v)), (m_isHeld v), (m_tape v), (m_taped v), (m_token v), (m_from v), (m_to v), (m_value v), (m_isWrong v), hd, mv, (m_rows v), (m_rowN v), (m_sortOf v), (m_sizeOf v), (m_numbers v), (m_holdsWhat v), (m_holdsWhich v), (m_holdsMany v), (m_bodies v), (m_ran v), (m_actKind v), (m_actN v), (m_actA v), (m_isParted v))) 0 0 := by
                    intro fu
                    induction fu with
                    | zero =>
                      intro i hfu
                      exact absurd hfu (Nat.not_lt_zero _)
                    | succ fu ih_75 =>
                      intro i hfu hi
                      refine g_iload C dX5_begunFor_75 5 rfl ?_
                      refine g_aloadn C dX5_begunFor_77 0 rfl rfl ?_
                      refine g_get C fx5 w_0 0 0 (v := .ref (a 1)) rfl (by decide) w_1 rfl dX5_begunFor_78 ?_
                      refine g_iconst C 0 dX5_begunFor_81 (by decide) ?_
                      refine g_iald C 1 (0) (f := (scS T i k)) rfl rfl (by omega) (by decide) dX5_begunFor_82 ?_
                      refine g_topci (nI N) ((sc_out (Or.inl (by omega))).trans ((hT7 0 (by omega)).trans hG.n)) ?_
                      refine g_icmpN_ge C 113 (i) (N) dX5_begunFor_83 rfl (by omega) (by omega) (fun c_83 => ?_) (fun c_83 => ?_)
                      · refine g_wsc (mw q a ((scS (m_s v) N k), (m_held v), as, (m_before v), (cp47 (m_s v) (m_untried v)), (m_isHeld v), (m_tape v), (m_taped v), (m_token v), (m_from v), (m_to v), (m_value v), (m_isWrong v), hd, mv, (m_rows v), (m_rowN v), (m_sortOf v), (m_sizeOf v), (m_numbers v), (m_holdsWhat v), (m_holdsWhich v), (m_holdsMany v), (m_bodies v), (m_ran v), (m_actKind v), (m_actN v), (m_actA v), (m_isParted v))) (by rw [show i = N by omega, hT]) ?_
                        refine g_aloadn C dX5_begunFor_113 0 rfl rfl ?_
                        refine g_iloadn C dX5_begunFor_114 2 rfl rfl ?_
                        refine g_topci (nI n) (en) ?_
                        refine g_callAi C (rd_V C (k_X5_clappingBehind l D q tt a ((scS (m_s v) N k), (m_held v), as, (m_before v), (cp47 (m_s v) (m_untried v)), (m_isHeld v), (m_tape v), (m_taped v), (m_token v), (m_from v), (m_to v), (m_value v), (m_isWrong v), hd, mv, (m_rows v), (m_rowN v), (m_sortOf v), (m_sizeOf v), (m_numbers v), (m_holdsWhat v), (m_holdsWhich v), (m_holdsMany v), (m_bodies v), (m_ran v), (m_actKind v), (m_actN v), (m_actA v), (m_isParted v)) N n (Gd_sc hG) (by first | assumption | omega)) gX5_begunFor_X5_clappingBehind rfl rfl rfl 1 ok_X5_clappingBehind rfl 0 rfl rfl (rest := []) rfl rfl (Nat.le_of_ble_eq_true rfl) dX5_begunFor_115 ⟨(Nat.le_of_ble_eq_true rfl), (Nat.le_of_ble_eq_true rfl)⟩ ⟨(Nat.le_of_ble_eq_true rfl), (Nat.le_of_ble_eq_true rfl)⟩) (fun r_115 u_115 h_115 => ?_)
                        obtain rfl := h_115
                        refine g_wsc (mw q a ((scS (m_s v) N k), (m_held v), u_115.1, (m_before v), (cp47 (m_s v) (m_untried v)), (m_isHeld v), (m_tape v), (m_taped v), (m_token v), (m_from v), (m_to v), (m_value v), (m_isWrong v), u_115.2.1, u_115.2.2, (m_rows v), (m_rowN v), (m_sortOf v), (m_sizeOf v), (m_numbers v), (m_holdsWhat v), (m_holdsWhich v), (m_holdsMany v), (m_bodies v), (m_ran v), (m_actKind v), (m_actN v), (m_actA v), (m_isParted v))) rfl ?_
                        refine g_topci (clS (gosS (scS (m_s v) N k) N n) N) rfl ?_
                        refine g_topci (nI (clN (gosS (scS (m_s v) N k) N n) N)) (rfl) ?_
                        have hbt := bt_le (clN (gosS (scS (m_s v) N k) N n) N) j
                        refine g_iloadn C dX5_begunFor_118 1 rfl rfl ?_
                        refine g_topci (nI j) (ej) ?_
                        refine g_ishr C dX5_begunFor_119 ?_
                        refine g_iconst C 1 dX5_begunFor_120 (by decide) ?_
                        refine g_iand C dX5_begunFor_121 ?_
                        refine g_topci (nI (btS (clN (gosS (scS (m_s v) N k) N n) N) j)) (bt_shr j (by omega) _ (clN_256 h8)) ?_
                        refine g_iconst C 1 dX5_begunFor_122 (by decide) ?_
                        refine g_icmpN_ne C 131 ((btS (clN (gosS (scS (m_s v) N k) N n) N) j)) (1) dX5_begunFor_123 rfl (by omega) (by omega) (fun c_123 => ?_) (fun c_123 => ?_)
                        · refine g_iloadn C dX5_begunFor_131 3 rfl rfl ?_
                          refine g_istoren C [(3, .int b), (0, .ref (a 0)), (1, .int x), (2, .int y), (4, .int (nI k)), (5, .int (nI i))] dX5_begunFor_132 rfl (by decide) rfl ?_
                          refine g_iinc C (nI (k + 1)) [(4, .int (nI (k + 1))), (3, .int b), (0, .ref (a 0)), (1, .int x), (2, .int y), (5, .int (nI i))] dX5_begunFor_133 4 rfl (nI_add k 1) (by decide) rfl ?_
                          refine g_goto C 34 dX5_begunFor_136 rfl ?_
                          refine g_sub [2, 3, 4, 1, 0] (lv' := [(0, .ref (a 0)), (1, .int x), (2, .int y), (3, .int b), (4, .int (nI (k + 1)))]) rfl ?_
                          exact ih_34 ((k + 1)) (b) ((scS (m_s v) N k)) (u_115.1) (u_115.2.1) (u_115.2.2) (by omega) (by first | assumption | omega) (by first | exact ls_skip hb (fun z => by have z1 := z.1; omega) | (rw [eb]; exact lk_skip hl (by omega)) | exact ls_skip hb (fun z => c_123 ((bt_cl ((Gd_sc hG).gos n) hj).mpr z.2)) | (rw [eb] at hb; exact lk_new hl (by omega) ⟨by have := bt_le k j; omega, (bt_cl ((Gd_sc hG).gos n) hj).mp c_123⟩) | exact l0_new (ls_ng (by omega) hb c_57).2 ⟨by have := bt_le k j; omega, (bt_cl ((Gd_sc hG).gos n) hj).mp c_123⟩) (by first | exact hT | exact (fun k_ => sc_sc (m_s v) N k_ k)) (by first | exact hT7 | exact (fun q hq => sc_out (by omega)))
                        · refine g_iload C dX5_begunFor_126 4 rfl ?_
                          refine g_goto C 132 dX5_begunFor_128 rfl ?_
                          refine g_istoren C [(3, .int (nI k)), (0, .ref (a 0)), (1, .int x), (2, .int y), (4, .int (nI k)), (5, .int (nI i))] dX5_begunFor_132 rfl (by decide) rfl ?_
                          refine g_iinc C (nI (k + 1)) [(4, .int (nI (k + 1))), (3, .int (nI k)), (0, .ref (a 0)), (1, .int x), (2, .int y), (5, .int (nI i))] dX5_begunFor_133 4 rfl (nI_add k 1) (by decide) rfl ?_
                          refine g_goto C 34 dX5_begunFor_136 rfl ?_
                          refine g_sub [2, 3, 4, 1, 0] (lv' := [(0, .ref (a 0)), (1, .int x), (2, .int y), (3, .int (nI k)), (4, .int (nI (k + 1)))]) rfl ?_
                          exact ih_34 ((k + 1)) ((nI k)) ((scS (m_s v) N k)) (u_115.1) (u_115.2.1) (u_115.2.2) (by omega) (by first | assumption | omega) (by first | exact ls_skip hb (fun z => by have z1 := z.1; omega) | (rw [eb]; exact lk_skip hl (by omega)) | exact ls_skip hb (fun z => c_123 ((bt_cl ((Gd_sc hG).gos n) hj).mpr z.2)) | (rw [eb] at hb; exact lk_new hl (by omega) ⟨by have := bt_le k j; omega, (bt_cl ((Gd_sc hG).gos n) hj).mp c_123⟩) | exact l0_new (ls_ng (by omega) hb c_57).2 ⟨by have := bt_le k j; omega, (bt_cl ((Gd_sc hG).gos n) hj).mp c_123⟩) (by first | exact hT | exact (fun k_ => sc_sc (m_s v) N k_ k)) (by first | exact hT7 | exact (fun q hq => sc_out (by omega)))
                      · refine g_aloadn C dX5_begunFor_86 0 rfl rfl ?_
                        refine g_get C fx5 w_0 0 0 (v := .ref (a 1)) rfl (by decide) w_1 rfl dX5_begunFor_87 ?_
                        refine g_bipush C 7 dX5_begunFor_90 (by decide) ?_
                        refine g_iconst C 5 dX5_begunFor_92 (by decide) ?_
                        refine g_iload C dX5_begunFor_93 5 rfl ?_
                        refine g_imul C dX5_begunFor_95 ?_
                        refine g_iadd C dX5_begunFor_96 ?_
                        refine g_iconst C 4 dX5_begunFor_97 (by decide) ?_
                        refine g_iadd C dX5_begunFor_98 ?_
                        refine g_iload C dX5_begunFor_99 4 rfl ?_
                        refine g_iload C dX5_begunFor_101 5 rfl ?_
                        refine g_ishr C dX5_begunFor_103 ?_
                        refine g_iconst C 1 dX5_begunFor_104 (by decide) ?_
                        refine g_iand C dX5_begunFor_105 ?_
                        refine g_topci (nI (btS k i)) (bt_shr i (by omega) k (by omega)) ?_
                        refine g_iast C 1 (((7 + (5 * i)) + 4)) (f := (scS T i k)) rfl (ix_add (ix_add rfl (ix_mul rfl rfl)) rfl) (by omega) (by decide) dX5_begunFor_106 (mw q a ((upd (scS T i k) ((7 + (5 * i)) + 4) (nI (btS k i))), (m_held v), as, (m_before v), (cp47 (m_s v) (m_untried v)), (m_isHeld v), (m_tape v), (m_taped v), (m_token v), (m_from v), (m_to v), (m_value v), (m_isWrong v), hd, mv, (m_rows v), (m_rowN v), (m_sortOf v), (m_sizeOf v), (m_numbers v), (m_holdsWhat v), (m_holdsWhich v), (m_holdsMany v), (m_bodies v), (m_ran v), (m_actKind v), (m_actN v), (m_actA v), (m_isParted v))) rfl ?_
                        refine g_wsc (mw q a ((scS T (i + 1) k), (m_held v), as, (m_before v), (cp47 (m_s v) (m_untried v)), (m_isHeld v), (m_tape v), (m_taped v), (m_token v), (m_from v), (m_to v), (m_value v), (m_isWrong v), hd, mv, (m_rows v), (m_rowN v), (m_sortOf v), (m_sizeOf v), (m_numbers v), (m_holdsWhat v), (m_holdsWhich v), (m_holdsMany v), (m_bodies v), (m_ran v), (m_actKind v), (m_actN v), (m_actA v), (m_isParted v))) (by first | (rw [sc_step]; done) | (rw [sc_step]; rfl)) ?_
                        refine g_iinc C (nI (i + 1)) [(5, .int (nI (i + 1))), (0, .ref (a 0)), (1, .int x), (2, .int y), (3, .int b), (4, .int (nI k))] dX5_begunFor_107 5 rfl (nI_add i 1) (by decide) rfl ?_
                        refine g_goto C 75 dX5_begunFor_110 rfl ?_
                        refine g_sub [1, 2, 3, 4, 5, 0] (lv' := [(0, .ref (a 0)), (1, .int x), (2, .int y), (3, .int b), (4, .int (nI k)), (5, .int (nI (i + 1)))]) rfl ?_
                        exact ih_75 ((i + 1)) (by omega) (by first | assumption | omega)
                  refine g_wsc (mw q a ((scS T 0 k), (m_held v), as, (m_before v), (cp47 (m_s v) (m_untried v)), (m_isHeld v), (m_tape v), (m_taped v), (m_token v), (m_from v), (m_to v), (m_value v), (m_isWrong v), hd, mv, (m_rows v), (m_rowN v), (m_sortOf v), (m_sizeOf v), (m_numbers v), (m_holdsWhat v), (m_holdsWhich v), (m_holdsMany v), (m_bodies v), (m_ran v), (m_actKind v), (m_actN v), (m_actA v), (m_isParted v))) (by rw [sc_0]) ?_
                  refine g_sub [1, 2, 3, 4, 5, 0] (lv' := [(0, .ref (a 0)), (1, .int x), (2, .int y), (3, .int b), (4, .int (nI k)), (5, .int 0)]) rfl ?_
                  exact J_75 _ (0) (Nat.lt_succ_self _) (by first | assumption | omega)
      refine g_sub [2, 3, 4, 1, 0] (lv' := [(0, .ref (a 0)), (1, .int x), (2, .int y), (3, .int (-3)), (4, .int 0)]) rfl ?_
      exact J_34 _ (0) ((-3)) ((m_s v)) ((m_aside v)) ((m_heard v)) ((m_isMoved v)) (Nat.lt_succ_self _) (by first | assumption | omega) ls_nil (fun _ => rfl) (fun _ _ => rfl)
    · refine g_iconst C (-1) dX5_begunFor_15 (by decide) ?_
      exact g_iret C ((m_aside v), (m_untried v), (m_heard v), (m_isMoved v)) hr dX5_begunFor_16 (Nat.le_of_ble_eq_true rfl) (Nat.le_of_ble_eq_true rfl) rfl (Or.inr ⟨(fun z => by first | exact c_5 z.1 | exact c_12 z.2), rfl⟩)

