set_option maxRecDepth 100000 in
set_option maxHeartbeats 4000000 in
theorem k_X5_feed (l : Launch) (D : va_G) (q : Nat → ClassId) (tt : Nat → Nat) (a : Nat → Nat) (v : MC) (n : Nat) (x : Int64) (y : Int32) (htn : (m_taped v) = nI n) (hn2 : n ≤ 200) : MI l D q tt yX5_feed wsX5_feed ({ frames := 1, cells := 0, slots := 0, locals := 25 } : Room) [.ref (a 0), .long x, .int y] (mw q a v) (fun (r : Int32) (u : (Nat → Int32) × Int32) => r = R_feed n y ∧ u.1 = T_feed (m_tape v) n x y ∧ u.2 = nI (N_feed n y)) (fun u => (mw q a ((m_s v), (m_held v), (m_aside v), (m_before v), (m_untried v), (m_isHeld v), u.1, u.2, (m_token v), (m_from v), (m_to v), (m_value v), (m_isWrong v), (m_heard v), (m_isMoved v), (m_rows v), (m_rowN v), (m_sortOf v), (m_sizeOf v), (m_numbers v), (m_holdsWhat v), (m_holdsWhich v), (m_holdsMany v), (m_bodies v), (m_ran v), (m_actKind v), (m_actN v), (m_actA v), (m_isParted v)))) 0 0 := by
  refine MI.of RX5 [(0, .ref (a 0)), (1, .long x), (3, .int y)] (by decide) rfl rfl (Nat.le_of_ble_eq_true rfl) rfl ?_
  intro p e s m args below meth c A C hr hnm
  have w_0 : Cond.constantLong RX5 62 (8) ∈ wsX5_feed := by decide +kernel
  have w_1 : ∀ w ∈ u_ws RX5 TX5 29, w ∈ wsX5_feed := by decide +kernel
  have w_2 : Cond.fieldLink RX5 68 (TX5 7).1 (TX5 7).2.1 (TX5 7).2.2.1 ∈ wsX5_feed := by decide +kernel
  have w_3 : Cond.fieldLink RX5 25 (TX5 6).1 (TX5 6).2.1 (TX5 6).2.2.1 ∈ wsX5_feed := by decide +kernel
  have w_4 : Cond.constantLong RX5 72 (255) ∈ wsX5_feed := by decide +kernel
  refine g_iloadn C dX5_feed_0 2 rfl rfl ?_
  refine g_i2l C dX5_feed_1 ?_
  refine g_lconst C 1 dX5_feed_2 (by decide) ?_
  refine g_ldc2 C (8) dX5_feed_3 w_0 ?_
  refine g_call0i C (rd_S C (k_isIn32 l D q tt (y) 1 (8) 1 (8) (by first | rfl | decide) (by first | rfl | decide)) gX5_feed_X5_isIn rfl rfl rfl 3 ok_X5_isIn (rest := []) rfl rfl (Nat.le_of_ble_eq_true rfl) dX5_feed_6 ⟨(Nat.le_of_ble_eq_true rfl), (Nat.le_of_ble_eq_true rfl)⟩ ⟨(Nat.le_of_ble_eq_true rfl), (Nat.le_of_ble_eq_true rfl)⟩) (fun _ => rfl) (fun r_6 _ h_6 => ?_)
  obtain rfl := h_6
  refine g_ifneE C 14 dX5_feed_9 rfl rfl (fun c_9 => ?_) (fun c_9 => ?_)
  · obtain ⟨j, hj, ej, ec⟩ := ix_le (n := 8) (by omega) ⟨Int32.le_trans (by decide) c_9.1, c_9.2⟩
    refine g_aloadn C dX5_feed_14 0 rfl rfl ?_
    refine g_get C fx5 w_1 0 7 (v := .int (m_taped v)) rfl (by decide) w_2 rfl dX5_feed_15 ?_
    refine g_topci (nI n) (htn) ?_
    refine g_iloadn C dX5_feed_18 2 rfl rfl ?_
    refine g_topci (nI j) (ej) ?_
    refine g_iadd C dX5_feed_19 ?_
    refine g_topci (nI (n + j)) ((ix_add rfl rfl)) ?_
    refine g_sipush C 200 dX5_feed_20 (by decide) ?_
    refine g_icmpN_le C 29 ((n + j)) (200) dX5_feed_23 rfl (by omega) (by omega) (fun c_23 => ?_) (fun c_23 => ?_)
    · have hjn : n + j ≤ 200 := by omega
      refine g_iconst C 0 dX5_feed_29 (by decide) ?_
      refine g_istore C [(4, .int 0), (0, .ref (a 0)), (1, .long x), (3, .int y)] dX5_feed_30 (by decide) rfl ?_
      have J_32 : ∀ (fu : Nat) (i : Nat), j - i < fu → (i ≤ j) → G p l e ({ frames := 1, cells := 0, slots := 0, locals := 25 } : Room) s m args below meth c 5 D A (MQ below (va_Qi (fun (r : Int32) (u : (Nat → Int32) × Int32) => r = R_feed n y ∧ u.1 = T_feed (m_tape v) n x y ∧ u.2 = nI (N_feed n y)) (Bw D A (fun u => (mw q a ((m_s v), (m_held v), (m_aside v), (m_before v), (m_untried v), (m_isHeld v), u.1, u.2, (m_token v), (m_from v), (m_to v), (m_value v), (m_isWrong v), (m_heard v), (m_isMoved v), (m_rows v), (m_rowN v), (m_sortOf v), (m_sizeOf v), (m_numbers v), (m_holdsWhat v), (m_holdsWhich v), (m_holdsMany v), (m_bodies v), (m_ran v), (m_actKind v), (m_actN v), (m_actA v), (m_isParted v))))) A) args s 0 0 A) 32 [(0, .ref (a 0)), (1, .long x), (3, .int y), (4, .int (nI i))] [] (mw q a ((m_s v), (m_held v), (m_aside v), (m_before v), (m_untried v), (m_isHeld v), (fdR (m_tape v) n x i), (nI (n + i)), (m_token v), (m_from v), (m_to v), (m_value v), (m_isWrong v), (m_heard v), (m_isMoved v), (m_rows v), (m_rowN v), (m_sortOf v), (m_sizeOf v), (m_numbers v), (m_holdsWhat v), (m_holdsWhich v), (m_holdsMany v), (m_bodies v), (m_ran v), (m_actKind v), (m_actN v), (m_actA v), (m_isParted v))) 0 0 := by
        intro fu
        induction fu with
        | zero =>
          intro i hfu
          exact absurd hfu (Nat.not_lt_zero _)
        | succ fu ih =>
          intro i hfu hi
          refine g_iload C dX5_feed_32 3 rfl ?_
          refine g_iloadn C dX5_feed_34 2 rfl rfl ?_
          refine g_topci (nI j) (ej) ?_
          refine g_icmpN_ge C 75 (i) (j) dX5_feed_35 rfl (by omega) (by omega) (fun c_35 => ?_) (fun c_35 => ?_)
          · refine g_aloadn C dX5_feed_75 0 rfl rfl ?_
            refine g_get C fx5 w_1 0 7 (v := .int (nI (n + i))) rfl (by decide) w_2 rfl dX5_feed_76 ?_
            exact g_iret C ((fdR (m_tape v) n x i), (nI (n + i))) hr dX5_feed_79 (Nat.le_of_ble_eq_true rfl) (Nat.le_of_ble_eq_true rfl) rfl (by unfold R_feed T_feed N_feed; rw [if_pos c_9, ec, if_pos hjn, if_pos ⟨c_9, hjn⟩, if_pos ⟨c_9, hjn⟩, show j = i by omega]; exact ⟨rfl, rfl, rfl⟩)
          · refine g_aloadn C dX5_feed_38 0 rfl rfl ?_
            refine g_get C fx5 w_1 0 6 (v := .ref (a 6)) rfl (by decide) w_3 rfl dX5_feed_39 ?_
            refine g_aloadn C dX5_feed_42 0 rfl rfl ?_
            refine g_get C fx5 w_1 0 7 (v := .int (nI (n + i))) rfl (by decide) w_2 rfl dX5_feed_43 ?_
            refine g_lloadn C dX5_feed_46 1 rfl rfl ?_
            refine g_bipush C 8 dX5_feed_47 (by decide) ?_
            refine g_iload C dX5_feed_49 3 rfl ?_
            refine g_imul C dX5_feed_51 ?_
            refine g_lshr C dX5_feed_52 ?_
            refine g_ldc2 C (255) dX5_feed_53 w_4 ?_
            refine g_land C dX5_feed_56 ?_
            refine g_l2i C dX5_feed_57 ?_
            refine g_topci (fdV x i) (rfl) ?_
            refine g_iast C 6 ((n + i)) (f := (fdR (m_tape v) n x i)) rfl rfl (by omega) (by decide) dX5_feed_58 (mw q a ((m_s v), (m_held v), (m_aside v), (m_before v), (m_untried v), (m_isHeld v), (upd (fdR (m_tape v) n x i) (n + i) (fdV x i)), (nI (n + i)), (m_token v), (m_from v), (m_to v), (m_value v), (m_isWrong v), (m_heard v), (m_isMoved v), (m_rows v), (m_rowN v), (m_sortOf v), (m_sizeOf v), (m_numbers v), (m_holdsWhat v), (m_holdsWhich v), (m_holdsMany v), (m_bodies v), (m_ran v), (m_actKind v), (m_actN v), (m_actA v), (m_isParted v))) (by first | dsimp only [mw, List.set, m_s, m_held, m_aside, m_before, m_untried, m_isHeld, m_tape, m_taped, m_token, m_from, m_to, m_value, m_isWrong, m_heard, m_isMoved, m_rows, m_rowN, m_sortOf, m_sizeOf, m_numbers, m_holdsWhat, m_holdsWhich, m_holdsMany, m_bodies, m_ran, m_actKind, m_actN, m_actA, m_isParted] | rfl) ?_
            refine g_aloadn C dX5_feed_59 0 rfl rfl ?_
            refine g_dup C dX5_feed_60 rfl ?_
            refine g_get C fx5 w_1 0 7 (v := .int (nI (n + i))) rfl (by decide) w_2 rfl dX5_feed_61 ?_
            refine g_iconst C 1 dX5_feed_64 (by decide) ?_
            refine g_iadd C dX5_feed_65 ?_
            refine g_topci (nI (n + (i + 1))) (nI_add (n + i) 1) ?_
            refine g_put C fx5 w_1 0 7 rfl (by decide) w_2 rfl rfl rfl (Nat.le_of_ble_eq_true rfl) dX5_feed_66 (mw q a ((m_s v), (m_held v), (m_aside v), (m_before v), (m_untried v), (m_isHeld v), (upd (fdR (m_tape v) n x i) (n + i) (fdV x i)), (nI (n + (i + 1))), (m_token v), (m_from v), (m_to v), (m_value v), (m_isWrong v), (m_heard v), (m_isMoved v), (m_rows v), (m_rowN v), (m_sortOf v), (m_sizeOf v), (m_numbers v), (m_holdsWhat v), (m_holdsWhich v), (m_holdsMany v), (m_bodies v), (m_ran v), (m_actKind v), (m_actN v), (m_actA v), (m_isParted v))) rfl ?_
            refine g_wsc (mw q a ((m_s v), (m_held v), (m_aside v), (m_before v), (m_untried v), (m_isHeld v), (fdR (m_tape v) n x (i + 1)), (nI (n + (i + 1))), (m_token v), (m_from v), (m_to v), (m_value v), (m_isWrong v), (m_heard v), (m_isMoved v), (m_rows v), (m_rowN v), (m_sortOf v), (m_sizeOf v), (m_numbers v), (m_holdsWhat v), (m_holdsWhich v), (m_holdsMany v), (m_bodies v), (m_ran v), (m_actKind v), (m_actN v), (m_actA v), (m_isParted v))) (rfl) ?_
            refine g_iinc C (nI (i + 1)) [(4, .int (nI (i + 1))), (0, .ref (a 0)), (1, .long x), (3, .int y)] dX5_feed_69 3 rfl (nI_add i 1) (by decide) rfl ?_
            refine g_goto C 32 dX5_feed_72 rfl ?_
            refine g_sub [1, 2, 3, 0] (lv' := [(0, .ref (a 0)), (1, .long x), (3, .int y), (4, .int (nI (i + 1)))]) rfl ?_
            exact ih ((i + 1)) (by omega) (by first | assumption | omega)
      refine g_wsc (mw q a ((m_s v), (m_held v), (m_aside v), (m_before v), (m_untried v), (m_isHeld v), (fdR (m_tape v) n x 0), (m_taped v), (m_token v), (m_from v), (m_to v), (m_value v), (m_isWrong v), (m_heard v), (m_isMoved v), (m_rows v), (m_rowN v), (m_sortOf v), (m_sizeOf v), (m_numbers v), (m_holdsWhat v), (m_holdsWhich v), (m_holdsMany v), (m_bodies v), (m_ran v), (m_actKind v), (m_actN v), (m_actA v), (m_isParted v))) (rfl) ?_
      refine g_wsc (mw q a ((m_s v), (m_held v), (m_aside v), (m_before v), (m_untried v), (m_isHeld v), (fdR (m_tape v) n x 0), (nI (n + 0)), (m_token v), (m_from v), (m_to v), (m_value v), (m_isWrong v), (m_heard v), (m_isMoved v), (m_rows v), (m_rowN v), (m_sortOf v), (m_sizeOf v), (m_numbers v), (m_holdsWhat v), (m_holdsWhich v), (m_holdsMany v), (m_bodies v), (m_ran v), (m_actKind v), (m_actN v), (m_actA v), (m_isParted v))) (by
          have e_ : nI (n + 0) = m_taped v := htn.symm
          rw [e_]) ?_
      refine g_sub [1, 2, 3, 0] (lv' := [(0, .ref (a 0)), (1, .long x), (3, .int y), (4, .int 0)]) rfl ?_
      exact J_32 _ (0) (Nat.lt_succ_self _) (by first | assumption | omega)
    · have hnj : ¬ n + j ≤ 200 := by omega
      refine g_bipush C (-2) dX5_feed_26 (by decide) ?_
      exact g_iret C ((m_tape v), (m_taped v)) hr dX5_feed_28 (Nat.le_of_ble_eq_true rfl) (Nat.le_of_ble_eq_true rfl) rfl (by unfold R_feed T_feed N_feed; rw [if_pos c_9, ec, if_neg hnj, if_neg (fun h => hnj h.2), if_neg (fun h => hnj h.2)]; exact ⟨rfl, rfl, htn⟩)
  · refine g_iconst C (-1) dX5_feed_12 (by decide) ?_
    exact g_iret C ((m_tape v), (m_taped v)) hr dX5_feed_13 (Nat.le_of_ble_eq_true rfl) (Nat.le_of_ble_eq_true rfl) rfl (by have hn_ := c_9; unfold R_feed T_feed N_feed; rw [if_neg hn_, if_neg (fun h => hn_ h.1), if_neg (fun h => hn_ h.1)]; exact ⟨rfl, rfl, htn⟩)

set_option maxRecDepth 100000 in
set_option maxHeartbeats 4000000 in
theorem k_X5_isAlpha (l : Launch) (D : va_G) (q : Nat → ClassId) (tt : Nat → Nat) (x : Int32)  : MI l D q tt yX5_isAlpha wsX5_isAlpha ({ frames := 0, cells := 0, slots := 0, locals := 0 } : Room) [.int x] [] (fun (r : Int32) (u : Unit) => r = (bI (97 ≤ x ∧ x ≤ 122))) (fun (_ : Unit) => []) 0 0 := by
  refine MI.of RX5 [(0, .int x)] (by decide) rfl rfl (Nat.le_of_ble_eq_true rfl) rfl ?_
  intro p e s m args below meth c A C hr hnm
  refine g_iloadn C dX5_isAlpha_0 0 rfl rfl ?_
  refine g_bipush C 97 dX5_isAlpha_1 (by decide) ?_
  refine g_icmp_lt C 16 dX5_isAlpha_3 rfl (fun c_3 => ?_) (fun c_3 => ?_)
  · refine g_iconst C 0 dX5_isAlpha_16 (by decide) ?_
    exact g_zret C () hr rfl dX5_isAlpha_17 (Nat.le_of_ble_eq_true rfl) (Nat.le_of_ble_eq_true rfl) rfl (by unfold bI; split <;> rename_i hb_ <;> first | rfl | (exfalso; (try simp only [lg_lt0, lg_gt0, w_le, w_lt] at hb_ c_3); simp only [lg_lt0, lg_gt0, w_le, w_lt, Int32.lt_iff_toInt_lt, Int32.le_iff_toInt_le, ← Int32.toInt_inj, tI_0, tI_1, tI_2, tI_3, tI_4, tI_5, tI_6, tI_7, tI_8, tI_9, tI_10, tI_13, tI_19, tI_20, tI_30, tI_32, tI_40, tI_48, tI_57, tI_59, tI_60, tI_97, tI_99, tI_100, tI_122, tI_200, tI_m1, tI_m2, tI_m3, tI_39] at hb_ c_3 <;> omega))
  · refine g_iloadn C dX5_isAlpha_6 0 rfl rfl ?_
    refine g_bipush C 122 dX5_isAlpha_7 (by decide) ?_
    refine g_icmp_gt C 16 dX5_isAlpha_9 rfl (fun c_9 => ?_) (fun c_9 => ?_)
    · refine g_iconst C 0 dX5_isAlpha_16 (by decide) ?_
      exact g_zret C () hr rfl dX5_isAlpha_17 (Nat.le_of_ble_eq_true rfl) (Nat.le_of_ble_eq_true rfl) rfl (by unfold bI; split <;> rename_i hb_ <;> first | rfl | (exfalso; (try simp only [lg_lt0, lg_gt0, w_le, w_lt] at hb_ c_3 c_9); simp only [lg_lt0, lg_gt0, w_le, w_lt, Int32.lt_iff_toInt_lt, Int32.le_iff_toInt_le, ← Int32.toInt_inj, tI_0, tI_1, tI_2, tI_3, tI_4, tI_5, tI_6, tI_7, tI_8, tI_9, tI_10, tI_13, tI_19, tI_20, tI_30, tI_32, tI_40, tI_48, tI_57, tI_59, tI_60, tI_97, tI_99, tI_100, tI_122, tI_200, tI_m1, tI_m2, tI_m3, tI_39] at hb_ c_3 c_9 <;> omega))
    · refine g_iconst C 1 dX5_isAlpha_12 (by decide) ?_
      refine g_goto C 17 dX5_isAlpha_13 rfl ?_
      exact g_zret C () hr rfl dX5_isAlpha_17 (Nat.le_of_ble_eq_true rfl) (Nat.le_of_ble_eq_true rfl) rfl (by unfold bI; split <;> rename_i hb_ <;> first | rfl | (exfalso; (try simp only [lg_lt0, lg_gt0, w_le, w_lt] at hb_ c_3 c_9); simp only [lg_lt0, lg_gt0, w_le, w_lt, Int32.lt_iff_toInt_lt, Int32.le_iff_toInt_le, ← Int32.toInt_inj, tI_0, tI_1, tI_2, tI_3, tI_4, tI_5, tI_6, tI_7, tI_8, tI_9, tI_10, tI_13, tI_19, tI_20, tI_30, tI_32, tI_40, tI_48, tI_57, tI_59, tI_60, tI_97, tI_99, tI_100, tI_122, tI_200, tI_m1, tI_m2, tI_m3, tI_39] at hb_ c_3 c_9 <;> omega))

set_option maxRecDepth 100000 in
set_option maxHeartbeats 4000000 in
theorem k_X5_isDigit (l : Launch) (D : va_G) (q : Nat → ClassId) (tt : Nat → Nat) (x : Int32)  : MI l D q tt yX5_isDigit wsX5_isDigit ({ frames := 0, cells := 0, slots := 0, locals := 0 } : Room) [.int x] [] (fun (r : Int32) (u : Unit) => r = (bI (48 ≤ x ∧ x ≤ 57))) (fun (_ : Unit) => []) 0 0 := by
  refine MI.of RX5 [(0, .int x)] (by decide) rfl rfl (Nat.le_of_ble_eq_true rfl) rfl ?_
  intro p e s m args below meth c A C hr hnm
  refine g_iloadn C dX5_isDigit_0 0 rfl rfl ?_
  refine g_bipush C 48 dX5_isDigit_1 (by decide) ?_
  refine g_icmp_lt C 16 dX5_isDigit_3 rfl (fun c_3 => ?_) (fun c_3 => ?_)
  · refine g_iconst C 0 dX5_isDigit_16 (by decide) ?_
    exact g_zret C () hr rfl dX5_isDigit_17 (Nat.le_of_ble_eq_true rfl) (Nat.le_of_ble_eq_true rfl) rfl (by unfold bI; split <;> rename_i hb_ <;> first | rfl | (exfalso; (try simp only [lg_lt0, lg_gt0, w_le, w_lt] at hb_ c_3); simp only [lg_lt0, lg_gt0, w_le, w_lt, Int32.lt_iff_toInt_lt, Int32.le_iff_toInt_le, ← Int32.toInt_inj, tI_0, tI_1, tI_2, tI_3, tI_4, tI_5, tI_6, tI_7, tI_8, tI_9, tI_10, tI_13, tI_19, tI_20, tI_30, tI_32, tI_40, tI_48, tI_57, tI_59, tI_60, tI_97, tI_99, tI_100, tI_122, tI_200, tI_m1, tI_m2, tI_m3, tI_39] at hb_ c_3 <;> omega))
  · refine g_iloadn C dX5_isDigit_6 0 rfl rfl ?_
    refine g_bipush C 57 dX5_isDigit_7 (by decide) ?_
    refine g_icmp_gt C 16 dX5_isDigit_9 rfl (fun c_9 => ?_) (fun c_9 => ?_)
    · refine g_iconst C 0 dX5_isDigit_16 (by decide) ?_
      exact g_zret C () hr rfl dX5_isDigit_17 (Nat.le_of_ble_eq_true rfl) (Nat.le_of_ble_eq_true rfl) rfl (by unfold bI; split <;> rename_i hb_ <;> first | rfl | (exfalso; (try simp only [lg_lt0, lg_gt0, w_le, w_lt] at hb_ c_3 c_9); simp only [lg_lt0, lg_gt0, w_le, w_lt, Int32.lt_iff_toInt_lt, Int32.le_iff_toInt_le, ← Int32.toInt_inj, tI_0, tI_1, tI_2, tI_3, tI_4, tI_5, tI_6, tI_7, tI_8, tI_9, tI_10, tI_13, tI_19, tI_20, tI_30, tI_32, tI_40, tI_48, tI_57, tI_59, tI_60, tI_97, tI_99, tI_100, tI_122, tI_200, tI_m1, tI_m2, tI_m3, tI_39] at hb_ c_3 c_9 <;> omega))
    · refine g_iconst C 1 dX5_isDigit_12 (by decide) ?_
      refine g_goto C 17 dX5_isDigit_13 rfl ?_
      exact g_zret C () hr rfl dX5_isDigit_17 (Nat.le_of_ble_eq_true rfl) (Nat.le_of_ble_eq_true rfl) rfl (by unfold bI; split <;> rename_i hb_ <;> first | rfl | (exfalso; (try simp only [lg_lt0, lg_gt0, w_le, w_lt] at hb_ c_3 c_9); simp only [lg_lt0, lg_gt0, w_le, w_lt, Int32.lt_iff_toInt_lt, Int32.le_iff_toInt_le, ← Int32.toInt_inj, tI_0, tI_1, tI_2, tI_3, tI_4, tI_5, tI_6, tI_7, tI_8, tI_9, tI_10, tI_13, tI_19, tI_20, tI_30, tI_32, tI_40, tI_48, tI_57, tI_59, tI_60, tI_97, tI_99, tI_100, tI_122, tI_200, tI_m1, tI_m2, tI_m3, tI_39] at hb_ c_3 c_9 <;> omega))

set_option maxRecDepth 100000 in
set_option maxHeartbeats 4000000 in
theorem k_X5_byteAt (l : Launch) (D : va_G) (q : Nat → ClassId) (tt : Nat → Nat) (a : Nat → Nat) (v : MC) (n : Nat) (i : Nat) (htn : (m_taped v) = nI n) (hn2 : n ≤ 200) (hi : i < 2 ^ 30) : MI l D q tt yX5_byteAt wsX5_byteAt ({ frames := 0, cells := 0, slots := 0, locals := 0 } : Room) [.ref (a 0), .int (nI i)] (mw q a v) (fun (r : Int32) (u : Unit) => r = (byT (m_tape v) n i)) (fun (_ : Unit) => (mw q a v)) 0 0 := by
  refine MI.of RX5 [(0, .ref (a 0)), (1, .int (nI i))] (by decide) rfl rfl (Nat.le_of_ble_eq_true rfl) rfl ?_
  intro p e s m args below meth c A C hr hnm
  have w_0 : ∀ w ∈ u_ws RX5 TX5 29, w ∈ wsX5_byteAt := by decide +kernel
  have w_1 : Cond.fieldLink RX5 68 (TX5 7).1 (TX5 7).2.1 (TX5 7).2.2.1 ∈ wsX5_byteAt := by decide +kernel
  have w_2 : Cond.fieldLink RX5 25 (TX5 6).1 (TX5 6).2.1 (TX5 6).2.2.1 ∈ wsX5_byteAt := by decide +kernel
  refine g_iloadn C dX5_byteAt_0 1 rfl rfl ?_
  refine g_aloadn C dX5_byteAt_1 0 rfl rfl ?_
  refine g_get C fx5 w_0 0 7 (v := .int (m_taped v)) rfl (by decide) w_1 rfl dX5_byteAt_2 ?_
  refine g_topci (nI n) (htn) ?_
  refine g_icmpN_ge C 17 (i) (n) dX5_byteAt_5 rfl (by omega) (by omega) (fun c_5 => ?_) (fun c_5 => ?_)
  · refine g_iconst C (-1) dX5_byteAt_17 (by decide) ?_
    exact g_iret C () hr dX5_byteAt_18 (Nat.le_of_ble_eq_true rfl) (Nat.le_of_ble_eq_true rfl) rfl (by unfold byT; rw [if_neg (by omega)])
  · refine g_aloadn C dX5_byteAt_8 0 rfl rfl ?_
    refine g_get C fx5 w_0 0 6 (v := .ref (a 6)) rfl (by decide) w_2 rfl dX5_byteAt_9 ?_
    refine g_iloadn C dX5_byteAt_12 1 rfl rfl ?_
    refine g_iald C 6 (i) (f := (m_tape v)) rfl rfl (by omega) (by decide) dX5_byteAt_13 ?_
    refine g_goto C 18 dX5_byteAt_14 rfl ?_
    exact g_iret C () hr dX5_byteAt_18 (Nat.le_of_ble_eq_true rfl) (Nat.le_of_ble_eq_true rfl) rfl (by unfold byT; rw [if_pos (by omega)])

