set_option maxRecDepth 100000 in
set_option maxHeartbeats 4000000 in
theorem k_X5_isTold (l : Launch) (D : va_G) (q : Nat → ClassId) (tt : Nat → Nat) (a : Nat → Nat) (v : MC) (N : Nat) (j : Nat) (n : Nat) (hG : Gd (m_s v) N) (hj : j < 4) (hn : n ≤ 40) (en : (m_sizeOf v) j = nI n) : MI l D q tt yX5_isTold wsX5_isTold ({ frames := 5, cells := 0, slots := 0, locals := 112 } : Room) [.ref (a 0), .int (nI j)] (mw q a v) (fun (r : Int32) (u : (Nat → Int32) × (Nat → Int32) × (Nat → Int32)) => r = (bI (tdS (m_s v) (fun k => (m_numbers v) (40 * j + k)) N n))) (fun u => (mw q a ((m_s v), (m_held v), u.1, (m_before v), (m_untried v), (m_isHeld v), (m_tape v), (m_taped v), (m_token v), (m_from v), (m_to v), (m_value v), (m_isWrong v), u.2.1, u.2.2, (m_rows v), (m_rowN v), (m_sortOf v), (m_sizeOf v), (m_numbers v), (m_holdsWhat v), (m_holdsWhich v), (m_holdsMany v), (m_bodies v), (m_ran v), (m_actKind v), (m_actN v), (m_actA v), (m_isParted v)))) 0 0 := by
  refine MI.of RX5 [(0, .ref (a 0)), (1, .int (nI j))] (by decide) rfl rfl (Nat.le_of_ble_eq_true rfl) rfl ?_
  intro p e s m args below meth c A C hr hnm
  have w_0 : ∀ w ∈ u_ws RX5 TX5 29, w ∈ wsX5_isTold := by decide +kernel
  have w_1 : Cond.fieldLink RX5 7 (TX5 0).1 (TX5 0).2.1 (TX5 0).2.2.1 ∈ wsX5_isTold := by decide +kernel
  have w_2 : Cond.fieldLink RX5 16 (TX5 2).1 (TX5 2).2.1 (TX5 2).2.2.1 ∈ wsX5_isTold := by decide +kernel
  have w_3 : Cond.fieldLink RX5 41 (TX5 18).1 (TX5 18).2.1 (TX5 18).2.2.1 ∈ wsX5_isTold := by decide +kernel
  have w_4 : Cond.fieldLink RX5 44 (TX5 19).1 (TX5 19).2.1 (TX5 19).2.2.1 ∈ wsX5_isTold := by decide +kernel
  have h8 := hG.le
  refine g_aloadn C dX5_isTold_0 0 rfl rfl ?_
  refine g_get C fx5 w_0 0 0 (v := .ref (a 1)) rfl (by decide) w_1 rfl dX5_isTold_1 ?_
  refine g_aloadn C dX5_isTold_4 0 rfl rfl ?_
  refine g_get C fx5 w_0 0 2 (v := .ref (a 3)) rfl (by decide) w_2 rfl dX5_isTold_5 ?_
  refine g_callWv (w1 := (mw q a v)) (wr := ([0, 2, 4, 5, 6, 7, 8, 9, 10, 11, 12, 13, 14, 15, 16] : List Nat).filterMap (fun i => (mw q a v)[i]?)) (isC := [1, 3]) (isR := [0, 2, 4, 5, 6, 7, 8, 9, 10, 11, 12, 13, 14, 15, 16]) (pm := [0, 15, 1, 16, 2, 3, 4, 5, 6, 7, 8, 9, 10, 11, 12, 13, 14]) (w1' := (fun _ => (mw q a ((m_s v), (m_held v), (cp47 (m_s v) (m_aside v)), (m_before v), (m_untried v), (m_isHeld v), (m_tape v), (m_taped v), (m_token v), (m_from v), (m_to v), (m_value v), (m_isWrong v), (m_heard v), (m_isMoved v), (m_rows v), (m_rowN v), (m_sortOf v), (m_sizeOf v), (m_numbers v), (m_holdsWhat v), (m_holdsWhich v), (m_holdsMany v), (m_bodies v), (m_ran v), (m_actKind v), (m_actN v), (m_actA v), (m_isParted v))))) C (rd_S C (k_X5_copyRow l D q tt (a 1) (a 3) (m_s v) (m_aside v) ) gX5_isTold_X5_copyRow rfl rfl rfl 2 ok_X5_copyRow (rest := []) rfl rfl (Nat.le_of_ble_eq_true rfl) dX5_isTold_8 ⟨(Nat.le_of_ble_eq_true rfl), (Nat.le_of_ble_eq_true rfl)⟩ ⟨(Nat.le_of_ble_eq_true rfl), (Nat.le_of_ble_eq_true rfl)⟩) rfl rfl rfl (fun _ => rfl) rfl (fun _ h_8 => ?_)
  refine g_iconst C 1 dX5_isTold_11 (by decide) ?_
  refine g_istoren C [(2, .int 1), (0, .ref (a 0)), (1, .int (nI j))] dX5_isTold_12 rfl (by decide) rfl ?_
  refine g_iconst C 0 dX5_isTold_13 (by decide) ?_
  refine g_istoren C [(3, .int 0), (2, .int 1), (0, .ref (a 0)), (1, .int (nI j))] dX5_isTold_14 rfl (by decide) rfl ?_
  have J_15 : ∀ (fu : Nat) (i : Nat) (is_ : Int32) (hd : Nat → Int32) (mv : Nat → Int32), n - i < fu → (i ≤ n) → ((is_ = 1 ∧ tdS (m_s v) (fun k => (m_numbers v) (40 * j + k)) N i) ∨ (is_ = 0 ∧ ¬ tdS (m_s v) (fun k => (m_numbers v) (40 * j + k)) N n)) → G p l e ({ frames := 5, cells := 0, slots := 0, locals := 112 } : Room) s m args below meth c 4 D A (MQ below (va_Qi (fun (r : Int32) (u : (Nat → Int32) × (Nat → Int32) × (Nat → Int32)) => r = (bI (tdS (m_s v) (fun k => (m_numbers v) (40 * j + k)) N n))) (Bw D A (fun u => (mw q a ((m_s v), (m_held v), u.1, (m_before v), (m_untried v), (m_isHeld v), (m_tape v), (m_taped v), (m_token v), (m_from v), (m_to v), (m_value v), (m_isWrong v), u.2.1, u.2.2, (m_rows v), (m_rowN v), (m_sortOf v), (m_sizeOf v), (m_numbers v), (m_holdsWhat v), (m_holdsWhich v), (m_holdsMany v), (m_bodies v), (m_ran v), (m_actKind v), (m_actN v), (m_actA v), (m_isParted v))))) A) args s 0 0 A) 15 [(0, .ref (a 0)), (1, .int (nI j)), (2, .int is_), (3, .int (nI i))] [] (mw q a ((gosS (m_s v) N i), (m_held v), (cp47 (m_s v) (m_aside v)), (m_before v), (m_untried v), (m_isHeld v), (m_tape v), (m_taped v), (m_token v), (m_from v), (m_to v), (m_value v), (m_isWrong v), hd, mv, (m_rows v), (m_rowN v), (m_sortOf v), (m_sizeOf v), (m_numbers v), (m_holdsWhat v), (m_holdsWhich v), (m_holdsMany v), (m_bodies v), (m_ran v), (m_actKind v), (m_actN v), (m_actA v), (m_isParted v))) 0 0 := by
    intro fu
    induction fu with
    | zero =>
      intro i is_ hd mv hfu
      exact absurd hfu (Nat.not_lt_zero _)
    | succ fu ih =>
      intro i is_ hd mv hfu hi hs
      refine g_iloadn C dX5_isTold_15 3 rfl rfl ?_
      refine g_aloadn C dX5_isTold_16 0 rfl rfl ?_
      refine g_get C fx5 w_0 0 18 (v := .ref (a 11)) rfl (by decide) w_3 rfl dX5_isTold_17 ?_
      refine g_iloadn C dX5_isTold_20 1 rfl rfl ?_
      refine g_iald C 11 (j) (f := (m_sizeOf v)) rfl rfl (by omega) (by decide) dX5_isTold_21 ?_
      refine g_topci (nI n) (en) ?_
      refine g_icmpN_ge C 81 (i) (n) dX5_isTold_22 rfl (by omega) (by omega) (fun c_22 => ?_) (fun c_22 => ?_)
      · refine g_aloadn C dX5_isTold_81 0 rfl rfl ?_
        refine g_get C fx5 w_0 0 2 (v := .ref (a 3)) rfl (by decide) w_2 rfl dX5_isTold_82 ?_
        refine g_aloadn C dX5_isTold_85 0 rfl rfl ?_
        refine g_get C fx5 w_0 0 0 (v := .ref (a 1)) rfl (by decide) w_1 rfl dX5_isTold_86 ?_
        refine g_callWv (w1 := (mw q a ((gosS (m_s v) N i), (m_held v), (cp47 (m_s v) (m_aside v)), (m_before v), (m_untried v), (m_isHeld v), (m_tape v), (m_taped v), (m_token v), (m_from v), (m_to v), (m_value v), (m_isWrong v), hd, mv, (m_rows v), (m_rowN v), (m_sortOf v), (m_sizeOf v), (m_numbers v), (m_holdsWhat v), (m_holdsWhich v), (m_holdsMany v), (m_bodies v), (m_ran v), (m_actKind v), (m_actN v), (m_actA v), (m_isParted v)))) (wr := ([0, 2, 4, 5, 6, 7, 8, 9, 10, 11, 12, 13, 14, 15, 16] : List Nat).filterMap (fun ix_ => (mw q a ((gosS (m_s v) N i), (m_held v), (cp47 (m_s v) (m_aside v)), (m_before v), (m_untried v), (m_isHeld v), (m_tape v), (m_taped v), (m_token v), (m_from v), (m_to v), (m_value v), (m_isWrong v), hd, mv, (m_rows v), (m_rowN v), (m_sortOf v), (m_sizeOf v), (m_numbers v), (m_holdsWhat v), (m_holdsWhich v), (m_holdsMany v), (m_bodies v), (m_ran v), (m_actKind v), (m_actN v), (m_actA v), (m_isParted v)))[ix_]?)) (isC := [3, 1]) (isR := [0, 2, 4, 5, 6, 7, 8, 9, 10, 11, 12, 13, 14, 15, 16]) (pm := [0, 16, 1, 15, 2, 3, 4, 5, 6, 7, 8, 9, 10, 11, 12, 13, 14]) (w1' := (fun _ => (mw q a ((cp47 (cp47 (m_s v) (m_aside v)) (gosS (m_s v) N i)), (m_held v), (cp47 (m_s v) (m_aside v)), (m_before v), (m_untried v), (m_isHeld v), (m_tape v), (m_taped v), (m_token v), (m_from v), (m_to v), (m_value v), (m_isWrong v), hd, mv, (m_rows v), (m_rowN v), (m_sortOf v), (m_sizeOf v), (m_numbers v), (m_holdsWhat v), (m_holdsWhich v), (m_holdsMany v), (m_bodies v), (m_ran v), (m_actKind v), (m_actN v), (m_actA v), (m_isParted v))))) C (rd_S C (k_X5_copyRow l D q tt (a 3) (a 1) (cp47 (m_s v) (m_aside v)) (gosS (m_s v) N i) ) gX5_isTold_X5_copyRow rfl rfl rfl 2 ok_X5_copyRow (rest := []) rfl rfl (Nat.le_of_ble_eq_true rfl) dX5_isTold_89 ⟨(Nat.le_of_ble_eq_true rfl), (Nat.le_of_ble_eq_true rfl)⟩ ⟨(Nat.le_of_ble_eq_true rfl), (Nat.le_of_ble_eq_true rfl)⟩) rfl rfl rfl (fun _ => rfl) rfl (fun _ h_89 => ?_)
        refine g_wsc (mw q a ((m_s v), (m_held v), (cp47 (m_s v) (m_aside v)), (m_before v), (m_untried v), (m_isHeld v), (m_tape v), (m_taped v), (m_token v), (m_from v), (m_to v), (m_value v), (m_isWrong v), hd, mv, (m_rows v), (m_rowN v), (m_sortOf v), (m_sizeOf v), (m_numbers v), (m_holdsWhat v), (m_holdsWhich v), (m_holdsMany v), (m_bodies v), (m_ran v), (m_actKind v), (m_actN v), (m_actA v), (m_isParted v))) (by first | (rw [cp_back (fun k hk => gos_hi hG hk i)]; done) | (rw [cp_back (fun k hk => gos_hi hG hk i)]; rfl)) ?_
        refine g_iloadn C dX5_isTold_92 2 rfl rfl ?_
        exact g_zret C ((cp47 (m_s v) (m_aside v)), hd, mv) hr (by first | exact bI_z | (rcases hs with ⟨h1_, h2_⟩ | ⟨h1_, h2_⟩ <;> rw [h1_] <;> rfl)) dX5_isTold_93 (Nat.le_of_ble_eq_true rfl) (Nat.le_of_ble_eq_true rfl) rfl (by
            rcases hs with ⟨h1_, h2_⟩ | ⟨h1_, h2_⟩
            · have e_ : i = n := by omega
              rw [e_] at h2_
              rw [h1_, bI_t h2_]
            · rw [h1_, bI_n h2_])
      · refine g_iloadn C dX5_isTold_25 2 rfl rfl ?_
        refine g_if_eq C 81 dX5_isTold_26 rfl (fun c_26 => ?_) (fun c_26 => ?_)
        · refine g_aloadn C dX5_isTold_81 0 rfl rfl ?_
          refine g_get C fx5 w_0 0 2 (v := .ref (a 3)) rfl (by decide) w_2 rfl dX5_isTold_82 ?_
          refine g_aloadn C dX5_isTold_85 0 rfl rfl ?_
          refine g_get C fx5 w_0 0 0 (v := .ref (a 1)) rfl (by decide) w_1 rfl dX5_isTold_86 ?_
          refine g_callWv (w1 := (mw q a ((gosS (m_s v) N i), (m_held v), (cp47 (m_s v) (m_aside v)), (m_before v), (m_untried v), (m_isHeld v), (m_tape v), (m_taped v), (m_token v), (m_from v), (m_to v), (m_value v), (m_isWrong v), hd, mv, (m_rows v), (m_rowN v), (m_sortOf v), (m_sizeOf v), (m_numbers v), (m_holdsWhat v), (m_holdsWhich v), (m_holdsMany v), (m_bodies v), (m_ran v), (m_actKind v), (m_actN v), (m_actA v), (m_isParted v)))) (wr := ([0, 2, 4, 5, 6, 7, 8, 9, 10, 11, 12, 13, 14, 15, 16] : List Nat).filterMap (fun ix_ => (mw q a ((gosS (m_s v) N i), (m_held v), (cp47 (m_s v) (m_aside v)), (m_before v), (m_untried v), (m_isHeld v), (m_tape v), (m_taped v), (m_token v), (m_from v), (m_to v), (m_value v), (m_isWrong v), hd, mv, (m_rows v), (m_rowN v), (m_sortOf v), (m_sizeOf v), (m_numbers v), (m_holdsWhat v), (m_holdsWhich v), (m_holdsMany v), (m_bodies v), (m_ran v), (m_actKind v), (m_actN v), (m_actA v), (m_isParted v)))[ix_]?)) (isC := [3, 1]) (isR := [0, 2, 4, 5, 6, 7, 8, 9, 10, 11, 12, 13, 14, 15, 16]) (pm := [0, 16, 1, 15, 2, 3, 4, 5, 6, 7, 8, 9, 10, 11, 12, 13, 14]) (w1' := (fun _ => (mw q a ((cp47 (cp47 (m_s v) (m_aside v)) (gosS (m_s v) N i)), (m_held v), (cp47 (m_s v) (m_aside v)), (m_before v), (m_untried v), (m_isHeld v), (m_tape v), (m_taped v), (m_token v), (m_from v), (m_to v), (m_value v), (m_isWrong v), hd, mv, (m_rows v), (m_rowN v), (m_sortOf v), (m_sizeOf v), (m_numbers v), (m_holdsWhat v), (m_holdsWhich v), (m_holdsMany v), (m_bodies v), (m_ran v), (m_actKind v), (m_actN v), (m_actA v), (m_isParted v))))) C (rd_S C (k_X5_copyRow l D q tt (a 3) (a 1) (cp47 (m_s v) (m_aside v)) (gosS (m_s v) N i) ) gX5_isTold_X5_copyRow rfl rfl rfl 2 ok_X5_copyRow (rest := []) rfl rfl (Nat.le_of_ble_eq_true rfl) dX5_isTold_89 ⟨(Nat.le_of_ble_eq_true rfl), (Nat.le_of_ble_eq_true rfl)⟩ ⟨(Nat.le_of_ble_eq_true rfl), (Nat.le_of_ble_eq_true rfl)⟩) rfl rfl rfl (fun _ => rfl) rfl (fun _ h_89 => ?_)
          refine g_wsc (mw q a ((m_s v), (m_held v), (cp47 (m_s v) (m_aside v)), (m_before v), (m_untried v), (m_isHeld v), (m_tape v), (m_taped v), (m_token v), (m_from v), (m_to v), (m_value v), (m_isWrong v), hd, mv, (m_rows v), (m_rowN v), (m_sortOf v), (m_sizeOf v), (m_numbers v), (m_holdsWhat v), (m_holdsWhich v), (m_holdsMany v), (m_bodies v), (m_ran v), (m_actKind v), (m_actN v), (m_actA v), (m_isParted v))) (by first | (rw [cp_back (fun k hk => gos_hi hG hk i)]; done) | (rw [cp_back (fun k hk => gos_hi hG hk i)]; rfl)) ?_
          refine g_iloadn C dX5_isTold_92 2 rfl rfl ?_
          exact g_zret C ((cp47 (m_s v) (m_aside v)), hd, mv) hr (by first | exact bI_z | (rcases hs with ⟨h1_, h2_⟩ | ⟨h1_, h2_⟩ <;> rw [h1_] <;> rfl)) dX5_isTold_93 (Nat.le_of_ble_eq_true rfl) (Nat.le_of_ble_eq_true rfl) rfl (by
              rcases hs with ⟨h1_, h2_⟩ | ⟨h1_, h2_⟩
              · exact absurd (h1_.symm.trans c_26) (by decide)
              · rw [h1_, bI_n h2_])
        · have ht_ : tdS (m_s v) (fun k => (m_numbers v) (40 * j + k)) N i := by rcases hs with h_ | h_; exact h_.2; exact absurd h_.1 c_26
          refine g_aloadn C dX5_isTold_29 0 rfl rfl ?_
          refine g_callAv C (rd_V C (k_X5_goesOn l D q tt a ((gosS (m_s v) N i), (m_held v), (cp47 (m_s v) (m_aside v)), (m_before v), (m_untried v), (m_isHeld v), (m_tape v), (m_taped v), (m_token v), (m_from v), (m_to v), (m_value v), (m_isWrong v), hd, mv, (m_rows v), (m_rowN v), (m_sortOf v), (m_sizeOf v), (m_numbers v), (m_holdsWhat v), (m_holdsWhich v), (m_holdsMany v), (m_bodies v), (m_ran v), (m_actKind v), (m_actN v), (m_actA v), (m_isParted v)) N (hG.gos i)) gX5_isTold_X5_goesOn rfl rfl rfl 0 ok_X5_goesOn rfl 0 rfl rfl (rest := []) rfl rfl (Nat.le_of_ble_eq_true rfl) dX5_isTold_30 ⟨(Nat.le_of_ble_eq_true rfl), (Nat.le_of_ble_eq_true rfl)⟩ ⟨(Nat.le_of_ble_eq_true rfl), (Nat.le_of_ble_eq_true rfl)⟩) (fun u_30 h_30 => ?_)
          refine g_wsc (mw q a ((goS (gosS (m_s v) N i) N), (m_held v), (cp47 (m_s v) (m_aside v)), (m_before v), (m_untried v), (m_isHeld v), (m_tape v), (m_taped v), (m_token v), (m_from v), (m_to v), (m_value v), (m_isWrong v), u_30.1, u_30.2, (m_rows v), (m_rowN v), (m_sortOf v), (m_sizeOf v), (m_numbers v), (m_holdsWhat v), (m_holdsWhich v), (m_holdsMany v), (m_bodies v), (m_ran v), (m_actKind v), (m_actN v), (m_actA v), (m_isParted v))) rfl ?_
          refine g_wsc (mw q a ((gosS (m_s v) N (i + 1)), (m_held v), (cp47 (m_s v) (m_aside v)), (m_before v), (m_untried v), (m_isHeld v), (m_tape v), (m_taped v), (m_token v), (m_from v), (m_to v), (m_value v), (m_isWrong v), u_30.1, u_30.2, (m_rows v), (m_rowN v), (m_sortOf v), (m_sizeOf v), (m_numbers v), (m_holdsWhat v), (m_holdsWhich v), (m_holdsMany v), (m_bodies v), (m_ran v), (m_actKind v), (m_actN v), (m_actA v), (m_isParted v))) (rfl) ?_
          refine g_aloadn C dX5_isTold_33 0 rfl rfl ?_
          refine g_get C fx5 w_0 0 19 (v := .ref (a 12)) rfl (by decide) w_4 rfl dX5_isTold_34 ?_
          refine g_bipush C 40 dX5_isTold_37 (by decide) ?_
          refine g_iloadn C dX5_isTold_39 1 rfl rfl ?_
          refine g_imul C dX5_isTold_40 ?_
          refine g_iloadn C dX5_isTold_41 3 rfl rfl ?_
          refine g_iadd C dX5_isTold_42 ?_
          refine g_iald C 12 (((40 * j) + i)) (f := (m_numbers v)) rfl (ix_add (ix_mul rfl rfl) rfl) (by omega) (by decide) dX5_isTold_43 ?_
          refine g_iconst C (-1) dX5_isTold_44 (by decide) ?_
          refine g_icmp_eq C 69 dX5_isTold_45 rfl (fun c_45 => ?_) (fun c_45 => ?_)
          · refine g_iconst C 1 dX5_isTold_69 (by decide) ?_
            refine g_goto C 74 dX5_isTold_70 rfl ?_
            refine g_istoren C [(2, .int 1), (0, .ref (a 0)), (1, .int (nI j)), (3, .int (nI i))] dX5_isTold_74 rfl (by decide) rfl ?_
            refine g_iinc C (nI (i + 1)) [(3, .int (nI (i + 1))), (2, .int 1), (0, .ref (a 0)), (1, .int (nI j))] dX5_isTold_75 3 rfl (nI_add i 1) (by decide) rfl ?_
            refine g_goto C 15 dX5_isTold_78 rfl ?_
            refine g_sub [2, 3, 1, 0] (lv' := [(0, .ref (a 0)), (1, .int (nI j)), (2, .int 1), (3, .int (nI (i + 1)))]) rfl ?_
            exact ih ((i + 1)) (1) (u_30.1) (u_30.2) (by omega) (by first | assumption | omega) (by first | exact Or.inl ⟨rfl, td_next ht_ (Or.inl c_45)⟩ | exact Or.inl ⟨rfl, td_next ht_ (Or.inr (Decidable.not_not.mp c_66))⟩ | exact Or.inl ⟨rfl, td_next ht_ (Or.inr c_66)⟩ | exact Or.inr ⟨rfl, fun h => by rcases h i (by omega) with h_ | h_; exact c_45 h_; exact c_66 h_⟩)
          · refine g_aloadn C dX5_isTold_48 0 rfl rfl ?_
            refine g_get C fx5 w_0 0 19 (v := .ref (a 12)) rfl (by decide) w_4 rfl dX5_isTold_49 ?_
            refine g_bipush C 40 dX5_isTold_52 (by decide) ?_
            refine g_iloadn C dX5_isTold_54 1 rfl rfl ?_
            refine g_imul C dX5_isTold_55 ?_
            refine g_iloadn C dX5_isTold_56 3 rfl rfl ?_
            refine g_iadd C dX5_isTold_57 ?_
            refine g_iald C 12 (((40 * j) + i)) (f := (m_numbers v)) rfl (ix_add (ix_mul rfl rfl) rfl) (by omega) (by decide) dX5_isTold_58 ?_
            refine g_aloadn C dX5_isTold_59 0 rfl rfl ?_
            refine g_callAi C (rd_V C (k_X5_clappers l D q tt a ((gosS (m_s v) N (i + 1)), (m_held v), (cp47 (m_s v) (m_aside v)), (m_before v), (m_untried v), (m_isHeld v), (m_tape v), (m_taped v), (m_token v), (m_from v), (m_to v), (m_value v), (m_isWrong v), u_30.1, u_30.2, (m_rows v), (m_rowN v), (m_sortOf v), (m_sizeOf v), (m_numbers v), (m_holdsWhat v), (m_holdsWhich v), (m_holdsMany v), (m_bodies v), (m_ran v), (m_actKind v), (m_actN v), (m_actA v), (m_isParted v)) N (hG.gos (i + 1))) gX5_isTold_X5_clappers rfl rfl rfl 0 ok_X5_clappers rfl 0 rfl rfl (rest := [.int ((m_numbers v) ((40 * j) + i))]) rfl rfl (Nat.le_of_ble_eq_true rfl) dX5_isTold_60 ⟨(Nat.le_of_ble_eq_true rfl), (Nat.le_of_ble_eq_true rfl)⟩ ⟨(Nat.le_of_ble_eq_true rfl), (Nat.le_of_ble_eq_true rfl)⟩) (fun r_60 _ h_60 => ?_)
            obtain rfl := h_60
            refine g_topci (clS (gosS (m_s v) N (i + 1)) N) rfl ?_
            refine g_call0i C (rd_S C (k_X5_size l D q tt (clN (gosS (m_s v) N (i + 1)) N) (clN_256 h8)) gX5_isTold_X5_size rfl rfl rfl 1 ok_X5_size (rest := [.int ((m_numbers v) ((40 * j) + i))]) rfl rfl (Nat.le_of_ble_eq_true rfl) dX5_isTold_63 ⟨(Nat.le_of_ble_eq_true rfl), (Nat.le_of_ble_eq_true rfl)⟩ ⟨(Nat.le_of_ble_eq_true rfl), (Nat.le_of_ble_eq_true rfl)⟩) (fun _ => rfl) (fun r_63 _ h_63 => ?_)
            obtain rfl := h_63
            refine g_icmp_ne C 73 dX5_isTold_66 rfl (fun c_66 => ?_) (fun c_66 => ?_)
            · refine g_iconst C 0 dX5_isTold_73 (by decide) ?_
              refine g_istoren C [(2, .int 0), (0, .ref (a 0)), (1, .int (nI j)), (3, .int (nI i))] dX5_isTold_74 rfl (by decide) rfl ?_
              refine g_iinc C (nI (i + 1)) [(3, .int (nI (i + 1))), (2, .int 0), (0, .ref (a 0)), (1, .int (nI j))] dX5_isTold_75 3 rfl (nI_add i 1) (by decide) rfl ?_
              refine g_goto C 15 dX5_isTold_78 rfl ?_
              refine g_sub [2, 3, 1, 0] (lv' := [(0, .ref (a 0)), (1, .int (nI j)), (2, .int 0), (3, .int (nI (i + 1)))]) rfl ?_
              exact ih ((i + 1)) (0) (u_30.1) (u_30.2) (by omega) (by first | assumption | omega) (by first | exact Or.inl ⟨rfl, td_next ht_ (Or.inl c_45)⟩ | exact Or.inl ⟨rfl, td_next ht_ (Or.inr (Decidable.not_not.mp c_66))⟩ | exact Or.inl ⟨rfl, td_next ht_ (Or.inr c_66)⟩ | exact Or.inr ⟨rfl, fun h => by rcases h i (by omega) with h_ | h_; exact c_45 h_; exact c_66 h_⟩)
            · refine g_iconst C 1 dX5_isTold_69 (by decide) ?_
              refine g_goto C 74 dX5_isTold_70 rfl ?_
              refine g_istoren C [(2, .int 1), (0, .ref (a 0)), (1, .int (nI j)), (3, .int (nI i))] dX5_isTold_74 rfl (by decide) rfl ?_
              refine g_iinc C (nI (i + 1)) [(3, .int (nI (i + 1))), (2, .int 1), (0, .ref (a 0)), (1, .int (nI j))] dX5_isTold_75 3 rfl (nI_add i 1) (by decide) rfl ?_
              refine g_goto C 15 dX5_isTold_78 rfl ?_
              refine g_sub [2, 3, 1, 0] (lv' := [(0, .ref (a 0)), (1, .int (nI j)), (2, .int 1), (3, .int (nI (i + 1)))]) rfl ?_
              exact ih ((i + 1)) (1) (u_30.1) (u_30.2) (by omega) (by first | assumption | omega) (by first | exact Or.inl ⟨rfl, td_next ht_ (Or.inl c_45)⟩ | exact Or.inl ⟨rfl, td_next ht_ (Or.inr (Decidable.not_not.mp c_66))⟩ | exact Or.inl ⟨rfl, td_next ht_ (Or.inr c_66)⟩ | exact Or.inr ⟨rfl, fun h => by rcases h i (by omega) with h_ | h_; exact c_45 h_; exact c_66 h_⟩)
  refine g_sub [2, 3, 1, 0] (lv' := [(0, .ref (a 0)), (1, .int (nI j)), (2, .int 1), (3, .int 0)]) rfl ?_
  exact J_15 _ (0) (1) ((m_heard v)) ((m_isMoved v)) (Nat.lt_succ_self _) (by first | assumption | omega) (Or.inl ⟨rfl, fun k h => absurd h (Nat.not_lt_zero k)⟩)

