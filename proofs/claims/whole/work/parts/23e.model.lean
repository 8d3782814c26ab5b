set_option maxRecDepth 100000 in
set_option maxHeartbeats 4000000 in
theorem k_X5_judge (l : Launch) (D : va_G) (q : Nat → ClassId) (tt : Nat → Nat) (a : Nat → Nat) (v : MC) (N : Nat) (rn : Nat) (x : Int32) (hG : Gd (m_s v) N) (hrn : (m_rowN v) = nI rn) (hr10 : rn ≤ 10) : MI l D q tt yX5_judge wsX5_judge ({ frames := 5, cells := 0, slots := 0, locals := 112 } : Room) [.ref (a 0), .int x] (mw q a v) (fun (r : Int32) (u : (Nat → Int32) × (Nat → Int32) × (Nat → Int32)) => P_judge (m_s v) N (m_rows v) rn x r) (fun u => (mw q a ((m_s v), (m_held v), u.1, (m_before v), (m_untried v), (m_isHeld v), (m_tape v), (m_taped v), (m_token v), (m_from v), (m_to v), (m_value v), (m_isWrong v), u.2.1, u.2.2, (m_rows v), (m_rowN v), (m_sortOf v), (m_sizeOf v), (m_numbers v), (m_holdsWhat v), (m_holdsWhich v), (m_holdsMany v), (m_bodies v), (m_ran v), (m_actKind v), (m_actN v), (m_actA v), (m_isParted v)))) 0 0 := by
  refine MI.of RX5 [(0, .ref (a 0)), (1, .int x)] (by decide) rfl rfl (Nat.le_of_ble_eq_true rfl) rfl ?_
  intro p e s m args below meth c A C hr hnm
  have w_0 : ∀ w ∈ u_ws RX5 TX5 29, w ∈ wsX5_judge := by decide +kernel
  have w_1 : Cond.fieldLink RX5 7 (TX5 0).1 (TX5 0).2.1 (TX5 0).2.2.1 ∈ wsX5_judge := by decide +kernel
  have w_2 : Cond.fieldLink RX5 16 (TX5 2).1 (TX5 2).2.1 (TX5 2).2.2.1 ∈ wsX5_judge := by decide +kernel
  have w_3 : Cond.fieldLink RX5 149 (TX5 16).1 (TX5 16).2.1 (TX5 16).2.2.1 ∈ wsX5_judge := by decide +kernel
  have w_4 : Cond.fieldLink RX5 35 (TX5 15).1 (TX5 15).2.1 (TX5 15).2.2.1 ∈ wsX5_judge := by decide +kernel
  have h8 := hG.le
  refine g_aloadn C dX5_judge_0 0 rfl rfl ?_
  refine g_iloadn C dX5_judge_1 1 rfl rfl ?_
  refine g_callAi C (rd_V C (k_X5_isOne l D q tt a v x ) gX5_judge_X5_isOne rfl rfl rfl 1 ok_X5_isOne rfl 0 rfl rfl (rest := []) rfl rfl (Nat.le_of_ble_eq_true rfl) dX5_judge_2 ⟨(Nat.le_of_ble_eq_true rfl), (Nat.le_of_ble_eq_true rfl)⟩ ⟨(Nat.le_of_ble_eq_true rfl), (Nat.le_of_ble_eq_true rfl)⟩) (fun r_2 _ h_2 => ?_)
  obtain rfl := h_2
  refine g_ifneE C 10 dX5_judge_5 rfl rfl (fun c_5 => ?_) (fun c_5 => ?_)
  · obtain ⟨j, hj, ej, ec⟩ := ix_one hG c_5
    refine g_aloadn C dX5_judge_10 0 rfl rfl ?_
    refine g_get C fx5 w_0 0 0 (v := .ref (a 1)) rfl (by decide) w_1 rfl dX5_judge_11 ?_
    refine g_aloadn C dX5_judge_14 0 rfl rfl ?_
    refine g_get C fx5 w_0 0 2 (v := .ref (a 3)) rfl (by decide) w_2 rfl dX5_judge_15 ?_
    refine g_callWv (w1 := (mw q a v)) (wr := ([0, 2, 4, 5, 6, 7, 8, 9, 10, 11, 12, 13, 14, 15, 16] : List Nat).filterMap (fun i => (mw q a v)[i]?)) (isC := [1, 3]) (isR := [0, 2, 4, 5, 6, 7, 8, 9, 10, 11, 12, 13, 14, 15, 16]) (pm := [0, 15, 1, 16, 2, 3, 4, 5, 6, 7, 8, 9, 10, 11, 12, 13, 14]) (w1' := (fun _ => (mw q a ((m_s v), (m_held v), (cp47 (m_s v) (m_aside v)), (m_before v), (m_untried v), (m_isHeld v), (m_tape v), (m_taped v), (m_token v), (m_from v), (m_to v), (m_value v), (m_isWrong v), (m_heard v), (m_isMoved v), (m_rows v), (m_rowN v), (m_sortOf v), (m_sizeOf v), (m_numbers v), (m_holdsWhat v), (m_holdsWhich v), (m_holdsMany v), (m_bodies v), (m_ran v), (m_actKind v), (m_actN v), (m_actA v), (m_isParted v))))) C (rd_S C (k_X5_copyRow l D q tt (a 1) (a 3) (m_s v) (m_aside v) ) gX5_judge_X5_copyRow rfl rfl rfl 2 ok_X5_copyRow (rest := []) rfl rfl (Nat.le_of_ble_eq_true rfl) dX5_judge_18 ⟨(Nat.le_of_ble_eq_true rfl), (Nat.le_of_ble_eq_true rfl)⟩ ⟨(Nat.le_of_ble_eq_true rfl), (Nat.le_of_ble_eq_true rfl)⟩) rfl rfl rfl (fun _ => rfl) rfl (fun _ h_18 => ?_)
    refine g_iconst C 0 dX5_judge_21 (by decide) ?_
    refine g_istoren C [(2, .int 0), (0, .ref (a 0)), (1, .int x)] dX5_judge_22 rfl (by decide) rfl ?_
    refine g_iconst C 1 dX5_judge_23 (by decide) ?_
    refine g_istoren C [(3, .int 1), (2, .int 0), (0, .ref (a 0)), (1, .int x)] dX5_judge_24 rfl (by decide) rfl ?_
    have J_25 : ∀ (fu : Nat) (i : Nat) (k : Nat) (hd : Nat → Int32) (mv : Nat → Int32), rn - i < fu → (i ≤ rn) → (k ≤ 1) → ((k = 1 ∧ ∀ k_, k_ < i → jdM (m_s v) N j (m_rows v) k_) ∨ (k = 0 ∧ ∃ b, i = b + 1 ∧ ¬ jdM (m_s v) N j (m_rows v) b ∧ ∀ k_, k_ < b → jdM (m_s v) N j (m_rows v) k_)) → G p l e ({ frames := 5, cells := 0, slots := 0, locals := 112 } : Room) s m args below meth c 4 D A (MQ below (va_Qi (fun (r : Int32) (u : (Nat → Int32) × (Nat → Int32) × (Nat → Int32)) => P_judge (m_s v) N (m_rows v) rn x r) (Bw D A (fun u => (mw q a ((m_s v), (m_held v), u.1, (m_before v), (m_untried v), (m_isHeld v), (m_tape v), (m_taped v), (m_token v), (m_from v), (m_to v), (m_value v), (m_isWrong v), u.2.1, u.2.2, (m_rows v), (m_rowN v), (m_sortOf v), (m_sizeOf v), (m_numbers v), (m_holdsWhat v), (m_holdsWhich v), (m_holdsMany v), (m_bodies v), (m_ran v), (m_actKind v), (m_actN v), (m_actA v), (m_isParted v))))) A) args s 0 0 A) 25 [(0, .ref (a 0)), (1, .int x), (2, .int (nI i)), (3, .int (nI k))] [] (mw q a ((gosS (m_s v) N i), (m_held v), (cp47 (m_s v) (m_aside v)), (m_before v), (m_untried v), (m_isHeld v), (m_tape v), (m_taped v), (m_token v), (m_from v), (m_to v), (m_value v), (m_isWrong v), hd, mv, (m_rows v), (m_rowN v), (m_sortOf v), (m_sizeOf v), (m_numbers v), (m_holdsWhat v), (m_holdsWhich v), (m_holdsMany v), (m_bodies v), (m_ran v), (m_actKind v), (m_actN v), (m_actA v), (m_isParted v))) 0 0 := by
      intro fu
      induction fu with
      | zero =>
        intro i k hd mv hfu
        exact absurd hfu (Nat.not_lt_zero _)
      | succ fu ih =>
        intro i k hd mv hfu hi hk1 hJ_
        refine g_iloadn C dX5_judge_25 2 rfl rfl ?_
        refine g_aloadn C dX5_judge_26 0 rfl rfl ?_
        refine g_get C fx5 w_0 0 16 (v := .int (m_rowN v)) rfl (by decide) w_3 rfl dX5_judge_27 ?_
        refine g_topci (nI rn) (hrn) ?_
        refine g_icmpN_ge C 106 (i) (rn) dX5_judge_30 rfl (by omega) (by omega) (fun c_30 => ?_) (fun c_30 => ?_)
        · refine g_aloadn C dX5_judge_106 0 rfl rfl ?_
          refine g_get C fx5 w_0 0 2 (v := .ref (a 3)) rfl (by decide) w_2 rfl dX5_judge_107 ?_
          refine g_aloadn C dX5_judge_110 0 rfl rfl ?_
          refine g_get C fx5 w_0 0 0 (v := .ref (a 1)) rfl (by decide) w_1 rfl dX5_judge_111 ?_
          refine g_callWv (w1 := (mw q a ((gosS (m_s v) N i), (m_held v), (cp47 (m_s v) (m_aside v)), (m_before v), (m_untried v), (m_isHeld v), (m_tape v), (m_taped v), (m_token v), (m_from v), (m_to v), (m_value v), (m_isWrong v), hd, mv, (m_rows v), (m_rowN v), (m_sortOf v), (m_sizeOf v), (m_numbers v), (m_holdsWhat v), (m_holdsWhich v), (m_holdsMany v), (m_bodies v), (m_ran v), (m_actKind v), (m_actN v), (m_actA v), (m_isParted v)))) (wr := ([0, 2, 4, 5, 6, 7, 8, 9, 10, 11, 12, 13, 14, 15, 16] : List Nat).filterMap (fun ix_ => (mw q a ((gosS (m_s v) N i), (m_held v), (cp47 (m_s v) (m_aside v)), (m_before v), (m_untried v), (m_isHeld v), (m_tape v), (m_taped v), (m_token v), (m_from v), (m_to v), (m_value v), (m_isWrong v), hd, mv, (m_rows v), (m_rowN v), (m_sortOf v), (m_sizeOf v), (m_numbers v), (m_holdsWhat v), (m_holdsWhich v), (m_holdsMany v), (m_bodies v), (m_ran v), (m_actKind v), (m_actN v), (m_actA v), (m_isParted v)))[ix_]?)) (isC := [3, 1]) (isR := [0, 2, 4, 5, 6, 7, 8, 9, 10, 11, 12, 13, 14, 15, 16]) (pm := [0, 16, 1, 15, 2, 3, 4, 5, 6, 7, 8, 9, 10, 11, 12, 13, 14]) (w1' := (fun _ => (mw q a ((cp47 (cp47 (m_s v) (m_aside v)) (gosS (m_s v) N i)), (m_held v), (cp47 (m_s v) (m_aside v)), (m_before v), (m_untried v), (m_isHeld v), (m_tape v), (m_taped v), (m_token v), (m_from v), (m_to v), (m_value v), (m_isWrong v), hd, mv, (m_rows v), (m_rowN v), (m_sortOf v), (m_sizeOf v), (m_numbers v), (m_holdsWhat v), (m_holdsWhich v), (m_holdsMany v), (m_bodies v), (m_ran v), (m_actKind v), (m_actN v), (m_actA v), (m_isParted v))))) C (rd_S C (k_X5_copyRow l D q tt (a 3) (a 1) (cp47 (m_s v) (m_aside v)) (gosS (m_s v) N i) ) gX5_judge_X5_copyRow rfl rfl rfl 2 ok_X5_copyRow (rest := []) rfl rfl (Nat.le_of_ble_eq_true rfl) dX5_judge_114 ⟨(Nat.le_of_ble_eq_true rfl), (Nat.le_of_ble_eq_true rfl)⟩ ⟨(Nat.le_of_ble_eq_true rfl), (Nat.le_of_ble_eq_true rfl)⟩) rfl rfl rfl (fun _ => rfl) rfl (fun _ h_114 => ?_)
          refine g_wsc (mw q a ((m_s v), (m_held v), (cp47 (m_s v) (m_aside v)), (m_before v), (m_untried v), (m_isHeld v), (m_tape v), (m_taped v), (m_token v), (m_from v), (m_to v), (m_value v), (m_isWrong v), hd, mv, (m_rows v), (m_rowN v), (m_sortOf v), (m_sizeOf v), (m_numbers v), (m_holdsWhat v), (m_holdsWhich v), (m_holdsMany v), (m_bodies v), (m_ran v), (m_actKind v), (m_actN v), (m_actA v), (m_isParted v))) (by first | (rw [cp_back (fun k hk => gos_hi hG hk i)]; done) | (rw [cp_back (fun k hk => gos_hi hG hk i)]; rfl)) ?_
          refine g_iloadn C dX5_judge_117 3 rfl rfl ?_
          refine g_ifN_eq C 125 (k) dX5_judge_118 rfl (by omega) (fun c_118 => ?_) (fun c_118 => ?_)
          · refine g_iloadn C dX5_judge_125 2 rfl rfl ?_
            exact g_iret C ((cp47 (m_s v) (m_aside v)), hd, mv) hr dX5_judge_126 (Nat.le_of_ble_eq_true rfl) (Nat.le_of_ble_eq_true rfl) rfl (by
                refine Or.inl ⟨c_5, ?_⟩
                rw [ec]
                rcases hJ_ with ⟨e1, z⟩ | ⟨e1, b, e2, hb, z⟩
                · first
                  | (exfalso; omega)
                  | exact Or.inl ⟨rfl, fun k_ hk_ => z k_ (by omega)⟩
                · first
                  | (exfalso; omega)
                  | exact Or.inr ⟨b, by omega, by rw [e2], hb, z⟩)
          · refine g_iconst C 0 dX5_judge_121 (by decide) ?_
            refine g_goto C 126 dX5_judge_122 rfl ?_
            exact g_iret C ((cp47 (m_s v) (m_aside v)), hd, mv) hr dX5_judge_126 (Nat.le_of_ble_eq_true rfl) (Nat.le_of_ble_eq_true rfl) rfl (by
                refine Or.inl ⟨c_5, ?_⟩
                rw [ec]
                rcases hJ_ with ⟨e1, z⟩ | ⟨e1, b, e2, hb, z⟩
                · first
                  | (exfalso; omega)
                  | exact Or.inl ⟨rfl, fun k_ hk_ => z k_ (by omega)⟩
                · first
                  | (exfalso; omega)
                  | exact Or.inr ⟨b, by omega, by rw [e2], hb, z⟩)
        · refine g_iloadn C dX5_judge_33 3 rfl rfl ?_
          refine g_ifN_eq C 106 (k) dX5_judge_34 rfl (by omega) (fun c_34 => ?_) (fun c_34 => ?_)
          · refine g_aloadn C dX5_judge_106 0 rfl rfl ?_
            refine g_get C fx5 w_0 0 2 (v := .ref (a 3)) rfl (by decide) w_2 rfl dX5_judge_107 ?_
            refine g_aloadn C dX5_judge_110 0 rfl rfl ?_
            refine g_get C fx5 w_0 0 0 (v := .ref (a 1)) rfl (by decide) w_1 rfl dX5_judge_111 ?_
            refine g_callWv (w1 := (mw q a ((gosS (m_s v) N i), (m_held v), (cp47 (m_s v) (m_aside v)), (m_before v), (m_untried v), (m_isHeld v), (m_tape v), (m_taped v), (m_token v), (m_from v), (m_to v), (m_value v), (m_isWrong v), hd, mv, (m_rows v), (m_rowN v), (m_sortOf v), (m_sizeOf v), (m_numbers v), (m_holdsWhat v), (m_holdsWhich v), (m_holdsMany v), (m_bodies v), (m_ran v), (m_actKind v), (m_actN v), (m_actA v), (m_isParted v)))) (wr := ([0, 2, 4, 5, 6, 7, 8, 9, 10, 11, 12, 13, 14, 15, 16] : List Nat).filterMap (fun ix_ => (mw q a ((gosS (m_s v) N i), (m_held v), (cp47 (m_s v) (m_aside v)), (m_before v), (m_untried v), (m_isHeld v), (m_tape v), (m_taped v), (m_token v), (m_from v), (m_to v), (m_value v), (m_isWrong v), hd, mv, (m_rows v), (m_rowN v), (m_sortOf v), (m_sizeOf v), (m_numbers v), (m_holdsWhat v), (m_holdsWhich v), (m_holdsMany v), (m_bodies v), (m_ran v), (m_actKind v), (m_actN v), (m_actA v), (m_isParted v)))[ix_]?)) (isC := [3, 1]) (isR := [0, 2, 4, 5, 6, 7, 8, 9, 10, 11, 12, 13, 14, 15, 16]) (pm := [0, 16, 1, 15, 2, 3, 4, 5, 6, 7, 8, 9, 10, 11, 12, 13, 14]) (w1' := (fun _ => (mw q a ((cp47 (cp47 (m_s v) (m_aside v)) (gosS (m_s v) N i)), (m_held v), (cp47 (m_s v) (m_aside v)), (m_before v), (m_untried v), (m_isHeld v), (m_tape v), (m_taped v), (m_token v), (m_from v), (m_to v), (m_value v), (m_isWrong v), hd, mv, (m_rows v), (m_rowN v), (m_sortOf v), (m_sizeOf v), (m_numbers v), (m_holdsWhat v), (m_holdsWhich v), (m_holdsMany v), (m_bodies v), (m_ran v), (m_actKind v), (m_actN v), (m_actA v), (m_isParted v))))) C (rd_S C (k_X5_copyRow l D q tt (a 3) (a 1) (cp47 (m_s v) (m_aside v)) (gosS (m_s v) N i) ) gX5_judge_X5_copyRow rfl rfl rfl 2 ok_X5_copyRow (rest := []) rfl rfl (Nat.le_of_ble_eq_true rfl) dX5_judge_114 ⟨(Nat.le_of_ble_eq_true rfl), (Nat.le_of_ble_eq_true rfl)⟩ ⟨(Nat.le_of_ble_eq_true rfl), (Nat.le_of_ble_eq_true rfl)⟩) rfl rfl rfl (fun _ => rfl) rfl (fun _ h_114 => ?_)
            refine g_wsc (mw q a ((m_s v), (m_held v), (cp47 (m_s v) (m_aside v)), (m_before v), (m_untried v), (m_isHeld v), (m_tape v), (m_taped v), (m_token v), (m_from v), (m_to v), (m_value v), (m_isWrong v), hd, mv, (m_rows v), (m_rowN v), (m_sortOf v), (m_sizeOf v), (m_numbers v), (m_holdsWhat v), (m_holdsWhich v), (m_holdsMany v), (m_bodies v), (m_ran v), (m_actKind v), (m_actN v), (m_actA v), (m_isParted v))) (by first | (rw [cp_back (fun k hk => gos_hi hG hk i)]; done) | (rw [cp_back (fun k hk => gos_hi hG hk i)]; rfl)) ?_
            refine g_iloadn C dX5_judge_117 3 rfl rfl ?_
            refine g_ifN_eq C 125 (k) dX5_judge_118 rfl (by omega) (fun c_118 => ?_) (fun c_118 => ?_)
            · refine g_iloadn C dX5_judge_125 2 rfl rfl ?_
              exact g_iret C ((cp47 (m_s v) (m_aside v)), hd, mv) hr dX5_judge_126 (Nat.le_of_ble_eq_true rfl) (Nat.le_of_ble_eq_true rfl) rfl (by
                  refine Or.inl ⟨c_5, ?_⟩
                  rw [ec]
                  rcases hJ_ with ⟨e1, z⟩ | ⟨e1, b, e2, hb, z⟩
                  · first
                    | (exfalso; omega)
                    | exact Or.inl ⟨rfl, fun k_ hk_ => z k_ (by omega)⟩
                  · first
                    | (exfalso; omega)
                    | exact Or.inr ⟨b, by omega, by rw [e2], hb, z⟩)
            · refine g_iconst C 0 dX5_judge_121 (by decide) ?_
              refine g_goto C 126 dX5_judge_122 rfl ?_
              exact g_iret C ((cp47 (m_s v) (m_aside v)), hd, mv) hr dX5_judge_126 (Nat.le_of_ble_eq_true rfl) (Nat.le_of_ble_eq_true rfl) rfl (by
                  refine Or.inl ⟨c_5, ?_⟩
                  rw [ec]
                  rcases hJ_ with ⟨e1, z⟩ | ⟨e1, b, e2, hb, z⟩
                  · first
                    | (exfalso; omega)
                    | exact Or.inl ⟨rfl, fun k_ hk_ => z k_ (by omega)⟩
                  · first
                    | (exfalso; omega)
                    | exact Or.inr ⟨b, by omega, by rw [e2], hb, z⟩)
          · have hA : ∀ k_, k_ < i → jdM (m_s v) N j (m_rows v) k_ := by
              rcases hJ_ with ⟨_, z⟩ | ⟨z, _⟩
              · exact z
              · exfalso; omega
            refine g_aloadn C dX5_judge_37 0 rfl rfl ?_
            refine g_callAv C (rd_V C (k_X5_goesOn l D q tt a ((gosS (m_s v) N i), (m_held v), (cp47 (m_s v) (m_aside v)), (m_before v), (m_untried v), (m_isHeld v), (m_tape v), (m_taped v), (m_token v), (m_from v), (m_to v), (m_value v), (m_isWrong v), hd, mv, (m_rows v), (m_rowN v), (m_sortOf v), (m_sizeOf v), (m_numbers v), (m_holdsWhat v), (m_holdsWhich v), (m_holdsMany v), (m_bodies v), (m_ran v), (m_actKind v), (m_actN v), (m_actA v), (m_isParted v)) N (hG.gos i)) gX5_judge_X5_goesOn rfl rfl rfl 0 ok_X5_goesOn rfl 0 rfl rfl (rest := []) rfl rfl (Nat.le_of_ble_eq_true rfl) dX5_judge_38 ⟨(Nat.le_of_ble_eq_true rfl), (Nat.le_of_ble_eq_true rfl)⟩ ⟨(Nat.le_of_ble_eq_true rfl), (Nat.le_of_ble_eq_true rfl)⟩) (fun u_38 h_38 => ?_)
            refine g_wsc (mw q a ((goS (gosS (m_s v) N i) N), (m_held v), (cp47 (m_s v) (m_aside v)), (m_before v), (m_untried v), (m_isHeld v), (m_tape v), (m_taped v), (m_token v), (m_from v), (m_to v), (m_value v), (m_isWrong v), u_38.1, u_38.2, (m_rows v), (m_rowN v), (m_sortOf v), (m_sizeOf v), (m_numbers v), (m_holdsWhat v), (m_holdsWhich v), (m_holdsMany v), (m_bodies v), (m_ran v), (m_actKind v), (m_actN v), (m_actA v), (m_isParted v))) rfl ?_
            refine g_wsc (mw q a ((gosS (m_s v) N (i + 1)), (m_held v), (cp47 (m_s v) (m_aside v)), (m_before v), (m_untried v), (m_isHeld v), (m_tape v), (m_taped v), (m_token v), (m_from v), (m_to v), (m_value v), (m_isWrong v), u_38.1, u_38.2, (m_rows v), (m_rowN v), (m_sortOf v), (m_sizeOf v), (m_numbers v), (m_holdsWhat v), (m_holdsWhich v), (m_holdsMany v), (m_bodies v), (m_ran v), (m_actKind v), (m_actN v), (m_actA v), (m_isParted v))) (rfl) ?_
            refine g_aloadn C dX5_judge_41 0 rfl rfl ?_
            refine g_get C fx5 w_0 0 15 (v := .ref (a 9)) rfl (by decide) w_4 rfl dX5_judge_42 ?_
            refine g_iconst C 3 dX5_judge_45 (by decide) ?_
            refine g_iloadn C dX5_judge_46 2 rfl rfl ?_
            refine g_imul C dX5_judge_47 ?_
            refine g_iald C 9 ((3 * i)) (f := (m_rows v)) rfl (ix_mul rfl rfl) (by omega) (by decide) dX5_judge_48 ?_
            refine g_aloadn C dX5_judge_49 0 rfl rfl ?_
            refine g_iloadn C dX5_judge_50 1 rfl rfl ?_
            refine g_topci (nI j) (ej) ?_
            refine g_iconst C 1 dX5_judge_51 (by decide) ?_
            refine g_callAi C (rd_V C (k_X5_its l D q tt a ((gosS (m_s v) N (i + 1)), (m_held v), (cp47 (m_s v) (m_aside v)), (m_before v), (m_untried v), (m_isHeld v), (m_tape v), (m_taped v), (m_token v), (m_from v), (m_to v), (m_value v), (m_isWrong v), u_38.1, u_38.2, (m_rows v), (m_rowN v), (m_sortOf v), (m_sizeOf v), (m_numbers v), (m_holdsWhat v), (m_holdsWhich v), (m_holdsMany v), (m_bodies v), (m_ran v), (m_actKind v), (m_actN v), (m_actA v), (m_isParted v)) j 1 (by first | assumption | omega) (by first | assumption | omega)) gX5_judge_X5_its rfl rfl rfl 2 ok_X5_its rfl 0 rfl rfl (rest := [.int ((m_rows v) (3 * i))]) rfl rfl (Nat.le_of_ble_eq_true rfl) dX5_judge_52 ⟨(Nat.le_of_ble_eq_true rfl), (Nat.le_of_ble_eq_true rfl)⟩ ⟨(Nat.le_of_ble_eq_true rfl), (Nat.le_of_ble_eq_true rfl)⟩) (fun r_52 _ h_52 => ?_)
            obtain rfl := h_52
            refine g_topci ((gosS (m_s v) N (i + 1)) (7 + 5 * j + 1)) rfl ?_
            refine g_icmp_ne C 98 dX5_judge_55 rfl (fun c_55 => ?_) (fun c_55 => ?_)
            · refine g_iconst C 0 dX5_judge_98 (by decide) ?_
              refine g_istoren C [(3, .int 0), (0, .ref (a 0)), (1, .int x), (2, .int (nI i))] dX5_judge_99 rfl (by decide) rfl ?_
              refine g_iinc C (nI (i + 1)) [(2, .int (nI (i + 1))), (3, .int 0), (0, .ref (a 0)), (1, .int x)] dX5_judge_100 3 rfl (nI_add i 1) (by decide) rfl ?_
              refine g_goto C 25 dX5_judge_103 rfl ?_
              refine g_sub [2, 3, 0, 1] (lv' := [(0, .ref (a 0)), (1, .int x), (2, .int (nI (i + 1))), (3, .int 0)]) rfl ?_
              exact ih ((i + 1)) (0) (u_38.1) (u_38.2) (by omega) (by first | assumption | omega) (by first | assumption | omega) (by first | exact Or.inl ⟨rfl, jd_next hA (jm_3 c_55 c_74 c_91)⟩ | exact Or.inr ⟨rfl, i, rfl, (fun z => c_55 (z 0 (by omega))), hA⟩ | exact Or.inr ⟨rfl, i, rfl, (fun z => c_74 (z 1 (by omega))), hA⟩ | exact Or.inr ⟨rfl, i, rfl, (fun z => c_91 (z 2 (by omega))), hA⟩)
            · refine g_aloadn C dX5_judge_58 0 rfl rfl ?_
              refine g_get C fx5 w_0 0 15 (v := .ref (a 9)) rfl (by decide) w_4 rfl dX5_judge_59 ?_
              refine g_iconst C 3 dX5_judge_62 (by decide) ?_
              refine g_iloadn C dX5_judge_63 2 rfl rfl ?_
              refine g_imul C dX5_judge_64 ?_
              refine g_iconst C 1 dX5_judge_65 (by decide) ?_
              refine g_iadd C dX5_judge_66 ?_
              refine g_iald C 9 (((3 * i) + 1)) (f := (m_rows v)) rfl (ix_add (ix_mul rfl rfl) rfl) (by omega) (by decide) dX5_judge_67 ?_
              refine g_aloadn C dX5_judge_68 0 rfl rfl ?_
              refine g_iloadn C dX5_judge_69 1 rfl rfl ?_
              refine g_topci (nI j) (ej) ?_
              refine g_iconst C 4 dX5_judge_70 (by decide) ?_
              refine g_callAi C (rd_V C (k_X5_its l D q tt a ((gosS (m_s v) N (i + 1)), (m_held v), (cp47 (m_s v) (m_aside v)), (m_before v), (m_untried v), (m_isHeld v), (m_tape v), (m_taped v), (m_token v), (m_from v), (m_to v), (m_value v), (m_isWrong v), u_38.1, u_38.2, (m_rows v), (m_rowN v), (m_sortOf v), (m_sizeOf v), (m_numbers v), (m_holdsWhat v), (m_holdsWhich v), (m_holdsMany v), (m_bodies v), (m_ran v), (m_actKind v), (m_actN v), (m_actA v), (m_isParted v)) j 4 (by first | assumption | omega) (by first | assumption | omega)) gX5_judge_X5_its rfl rfl rfl 2 ok_X5_its rfl 0 rfl rfl (rest := [.int ((m_rows v) ((3 * i) + 1))]) rfl rfl (Nat.le_of_ble_eq_true rfl) dX5_judge_71 ⟨(Nat.le_of_ble_eq_true rfl), (Nat.le_of_ble_eq_true rfl)⟩ ⟨(Nat.le_of_ble_eq_true rfl), (Nat.le_of_ble_eq_true rfl)⟩) (fun r_71 _ h_71 => ?_)
              obtain rfl := h_71
              refine g_topci ((gosS (m_s v) N (i + 1)) (7 + 5 * j + 4)) rfl ?_
              refine g_icmp_ne C 98 dX5_judge_74 rfl (fun c_74 => ?_) (fun c_74 => ?_)
              · refine g_iconst C 0 dX5_judge_98 (by decide) ?_
                refine g_istoren C [(3, .int 0), (0, .ref (a 0)), (1, .int x), (2, .int (nI i))] dX5_judge_99 rfl (by decide) rfl ?_
                refine g_iinc C (nI (i + 1)) [(2, .int (nI (i + 1))), (3, .int 0), (0, .ref (a 0)), (1, .int x)] dX5_judge_100 3 rfl (nI_add i 1) (by decide) rfl ?_
                refine g_goto C 25 dX5_judge_103 rfl ?_
                refine g_sub [2, 3, 0, 1] (lv' := [(0, .ref (a 0)), (1, .int x), (2, .int (nI (i + 1))), (3, .int 0)]) rfl ?_
                exact ih ((i + 1)) (0) (u_38.1) (u_38.2) (by omega) (by first | assumption | omega) (by first | assumption | omega) (by first | exact Or.inl ⟨rfl, jd_next hA (jm_3 c_55 c_74 c_91)⟩ | exact Or.inr ⟨rfl, i, rfl, (fun z => c_55 (z 0 (by omega))), hA⟩ | exact Or.inr ⟨rfl, i, rfl, (fun z => c_74 (z 1 (by omega))), hA⟩ | exact Or.inr ⟨rfl, i, rfl, (fun z => c_91 (z 2 (by omega))), hA⟩)
              · refine g_aloadn C dX5_judge_77 0 rfl rfl ?_
                refine g_get C fx5 w_0 0 15 (v := .ref (a 9)) rfl (by decide) w_4 rfl dX5_judge_78 ?_
                refine g_iconst C 3 dX5_judge_81 (by decide) ?_
                refine g_iloadn C dX5_judge_82 2 rfl rfl ?_
                refine g_imul C dX5_judge_83 ?_
                refine g_iconst C 2 dX5_judge_84 (by decide) ?_
                refine g_iadd C dX5_judge_85 ?_
                refine g_iald C 9 (((3 * i) + 2)) (f := (m_rows v)) rfl (ix_add (ix_mul rfl rfl) rfl) (by omega) (by decide) dX5_judge_86 ?_
                refine g_aloadn C dX5_judge_87 0 rfl rfl ?_
                refine g_callAi C (rd_V C (k_X5_clappers l D q tt a ((gosS (m_s v) N (i + 1)), (m_held v), (cp47 (m_s v) (m_aside v)), (m_before v), (m_untried v), (m_isHeld v), (m_tape v), (m_taped v), (m_token v), (m_from v), (m_to v), (m_value v), (m_isWrong v), u_38.1, u_38.2, (m_rows v), (m_rowN v), (m_sortOf v), (m_sizeOf v), (m_numbers v), (m_holdsWhat v), (m_holdsWhich v), (m_holdsMany v), (m_bodies v), (m_ran v), (m_actKind v), (m_actN v), (m_actA v), (m_isParted v)) N (hG.gos (i + 1))) gX5_judge_X5_clappers rfl rfl rfl 0 ok_X5_clappers rfl 0 rfl rfl (rest := [.int ((m_rows v) ((3 * i) + 2))]) rfl rfl (Nat.le_of_ble_eq_true rfl) dX5_judge_88 ⟨(Nat.le_of_ble_eq_true rfl), (Nat.le_of_ble_eq_true rfl)⟩ ⟨(Nat.le_of_ble_eq_true rfl), (Nat.le_of_ble_eq_true rfl)⟩) (fun r_88 _ h_88 => ?_)
                obtain rfl := h_88
                refine g_topci (clS (gosS (m_s v) N (i + 1)) N) rfl ?_
                refine g_icmp_ne C 98 dX5_judge_91 rfl (fun c_91 => ?_) (fun c_91 => ?_)
                · refine g_iconst C 0 dX5_judge_98 (by decide) ?_
                  refine g_istoren C [(3, .int 0), (0, .ref (a 0)), (1, .int x), (2, .int (nI i))] dX5_judge_99 rfl (by decide) rfl ?_
                  refine g_iinc C (nI (i + 1)) [(2, .int (nI (i + 1))), (3, .int 0), (0, .ref (a 0)), (1, .int x)] dX5_judge_100 3 rfl (nI_add i 1) (by decide) rfl ?_
                  refine g_goto C 25 dX5_judge_103 rfl ?_
                  refine g_sub [2, 3, 0, 1] (lv' := [(0, .ref (a 0)), (1, .int x), (2, .int (nI (i + 1))), (3, .int 0)]) rfl ?_
                  exact ih ((i + 1)) (0) (u_38.1) (u_38.2) (by omega) (by first | assumption | omega) (by first | assumption | omega) (by first | exact Or.inl ⟨rfl, jd_next hA (jm_3 c_55 c_74 c_91)⟩ | exact Or.inr ⟨rfl, i, rfl, (fun z => c_55 (z 0 (by omega))), hA⟩ | exact Or.inr ⟨rfl, i, rfl, (fun z => c_74 (z 1 (by omega))), hA⟩ | exact Or.inr ⟨rfl, i, rfl, (fun z => c_91 (z 2 (by omega))), hA⟩)
                · refine g_iconst C 1 dX5_judge_94 (by decide) ?_
                  refine g_goto C 99 dX5_judge_95 rfl ?_
                  refine g_istoren C [(3, .int 1), (0, .ref (a 0)), (1, .int x), (2, .int (nI i))] dX5_judge_99 rfl (by decide) rfl ?_
                  refine g_iinc C (nI (i + 1)) [(2, .int (nI (i + 1))), (3, .int 1), (0, .ref (a 0)), (1, .int x)] dX5_judge_100 3 rfl (nI_add i 1) (by decide) rfl ?_
                  refine g_goto C 25 dX5_judge_103 rfl ?_
                  refine g_sub [2, 3, 0, 1] (lv' := [(0, .ref (a 0)), (1, .int x), (2, .int (nI (i + 1))), (3, .int 1)]) rfl ?_
                  exact ih ((i + 1)) (1) (u_38.1) (u_38.2) (by omega) (by first | assumption | omega) (by first | assumption | omega) (by first | exact Or.inl ⟨rfl, jd_next hA (jm_3 c_55 c_74 c_91)⟩ | exact Or.inr ⟨rfl, i, rfl, (fun z => c_55 (z 0 (by omega))), hA⟩ | exact Or.inr ⟨rfl, i, rfl, (fun z => c_74 (z 1 (by omega))), hA⟩ | exact Or.inr ⟨rfl, i, rfl, (fun z => c_91 (z 2 (by omega))), hA⟩)
    refine g_wsc (mw q a ((gosS (m_s v) N 0), (m_held v), (cp47 (m_s v) (m_aside v)), (m_before v), (m_untried v), (m_isHeld v), (m_tape v), (m_taped v), (m_token v), (m_from v), (m_to v), (m_value v), (m_isWrong v), (m_heard v), (m_isMoved v), (m_rows v), (m_rowN v), (m_sortOf v), (m_sizeOf v), (m_numbers v), (m_holdsWhat v), (m_holdsWhich v), (m_holdsMany v), (m_bodies v), (m_ran v), (m_actKind v), (m_actN v), (m_actA v), (m_isParted v))) (rfl) ?_
    refine g_sub [2, 3, 1, 0] (lv' := [(0, .ref (a 0)), (1, .int x), (2, .int 0), (3, .int 1)]) rfl ?_
    exact J_25 _ (0) (1) ((m_heard v)) ((m_isMoved v)) (Nat.lt_succ_self _) (by first | assumption | omega) (by first | assumption | omega) (Or.inl ⟨rfl, fun k_ h => absurd h (Nat.not_lt_zero k_)⟩)
  · refine g_iconst C (-1) dX5_judge_8 (by decide) ?_
    exact g_iret C ((m_aside v), (m_heard v), (m_isMoved v)) hr dX5_judge_9 (Nat.le_of_ble_eq_true rfl) (Nat.le_of_ble_eq_true rfl) rfl (Or.inr ⟨(fun z => c_5 z), rfl⟩)

