set_option maxRecDepth 100000 in
set_option maxHeartbeats 4000000 in
theorem k_X5_fits (l : Launch) (D : va_G) (q : Nat → ClassId) (tt : Nat → Nat) (a : Nat → Nat) (v : MC) (N : Nat) (x : Int32) (y : Int32) (z : Int32) (hG : Gd (m_s v) N) (hT : ShG (m_sortOf v) (m_sizeOf v)) : MI l D q tt yX5_fits wsX5_fits ({ frames := 6, cells := 0, slots := 0, locals := 135 } : Room) [.ref (a 0), .int x, .int y, .int z] (mw q a v) (fun (r : Int32) (u : (Nat → Int32) × (Nat → Int32) × (Nat → Int32)) => r = R_fits (m_s v) (m_sortOf v) (m_sizeOf v) (m_numbers v) N x y z) (fun u => (mw q a ((m_s v), (m_held v), u.1, (m_before v), (m_untried v), (m_isHeld v), (m_tape v), (m_taped v), (m_token v), (m_from v), (m_to v), (m_value v), (m_isWrong v), u.2.1, u.2.2, (m_rows v), (m_rowN v), (m_sortOf v), (m_sizeOf v), (m_numbers v), (m_holdsWhat v), (m_holdsWhich v), (m_holdsMany v), (m_bodies v), (m_ran v), (m_actKind v), (m_actN v), (m_actA v), (m_isParted v)))) 0 0 := by
  refine MI.of RX5 [(0, .ref (a 0)), (1, .int x), (2, .int y), (3, .int z)] (by decide) rfl rfl (Nat.le_of_ble_eq_true rfl) rfl ?_
  intro p e s m args below meth c A C hr hnm
  have w_0 : ∀ w ∈ u_ws RX5 TX5 29, w ∈ wsX5_fits := by decide +kernel
  have w_1 : Cond.fieldLink RX5 38 (TX5 17).1 (TX5 17).2.1 (TX5 17).2.2.1 ∈ wsX5_fits := by decide +kernel
  have w_2 : Cond.fieldLink RX5 7 (TX5 0).1 (TX5 0).2.1 (TX5 0).2.2.1 ∈ wsX5_fits := by decide +kernel
  have h8 := hG.le
  refine g_iloadn C dX5_fits_0 1 rfl rfl ?_
  refine g_call0i C (rd_S C (k_X5_isSheet l D q tt x ) gX5_fits_X5_isSheet rfl rfl rfl 1 ok_X5_isSheet (rest := []) rfl rfl (Nat.le_of_ble_eq_true rfl) dX5_fits_1 ⟨(Nat.le_of_ble_eq_true rfl), (Nat.le_of_ble_eq_true rfl)⟩ ⟨(Nat.le_of_ble_eq_true rfl), (Nat.le_of_ble_eq_true rfl)⟩) (fun _ => rfl) (fun r_1 _ h_1 => ?_)
  obtain rfl := h_1
  refine g_ifeqE C 25 dX5_fits_4 rfl rfl (fun c_4 => ?_) (fun c_4 => ?_)
  · refine g_iconst C (-1) dX5_fits_25 (by decide) ?_
    exact g_iret C ((m_aside v), (m_heard v), (m_isMoved v)) hr dX5_fits_26 (Nat.le_of_ble_eq_true rfl) (Nat.le_of_ble_eq_true rfl) rfl (by have hn_ : ¬ fiG (m_s v) x y z := fun h => c_4 h.1; unfold R_fits; rw [if_neg hn_])
  · refine g_aloadn C dX5_fits_7 0 rfl rfl ?_
    refine g_iloadn C dX5_fits_8 2 rfl rfl ?_
    refine g_callAi C (rd_V C (k_X5_isOne l D q tt a v y ) gX5_fits_X5_isOne rfl rfl rfl 1 ok_X5_isOne rfl 0 rfl rfl (rest := []) rfl rfl (Nat.le_of_ble_eq_true rfl) dX5_fits_9 ⟨(Nat.le_of_ble_eq_true rfl), (Nat.le_of_ble_eq_true rfl)⟩ ⟨(Nat.le_of_ble_eq_true rfl), (Nat.le_of_ble_eq_true rfl)⟩) (fun r_9 _ h_9 => ?_)
    obtain rfl := h_9
    refine g_ifeqE C 25 dX5_fits_12 rfl rfl (fun c_12 => ?_) (fun c_12 => ?_)
    · refine g_iconst C (-1) dX5_fits_25 (by decide) ?_
      exact g_iret C ((m_aside v), (m_heard v), (m_isMoved v)) hr dX5_fits_26 (Nat.le_of_ble_eq_true rfl) (Nat.le_of_ble_eq_true rfl) rfl (by have hn_ : ¬ fiG (m_s v) x y z := fun h => c_12 h.2.1; unfold R_fits; rw [if_neg hn_])
    · refine g_iloadn C dX5_fits_15 3 rfl rfl ?_
      refine g_i2l C dX5_fits_16 ?_
      refine g_lconst C 0 dX5_fits_17 (by decide) ?_
      refine g_lconst C 1 dX5_fits_18 (by decide) ?_
      refine g_call0i C (rd_S C (k_isIn32 l D q tt (z) 0 1 0 1 (by first | rfl | decide) (by first | rfl | decide)) gX5_fits_X5_isIn rfl rfl rfl 3 ok_X5_isIn (rest := []) rfl rfl (Nat.le_of_ble_eq_true rfl) dX5_fits_19 ⟨(Nat.le_of_ble_eq_true rfl), (Nat.le_of_ble_eq_true rfl)⟩ ⟨(Nat.le_of_ble_eq_true rfl), (Nat.le_of_ble_eq_true rfl)⟩) (fun _ => rfl) (fun r_19 _ h_19 => ?_)
      obtain rfl := h_19
      refine g_ifneE C 27 dX5_fits_22 rfl rfl (fun c_22 => ?_) (fun c_22 => ?_)
      · obtain ⟨j, hj, ej, ec⟩ := ix_le (n := 3) (by omega) c_4
        obtain ⟨n, hn, en⟩ := (hT j (by omega)).2
        obtain ⟨d, hd, ed, ed2⟩ := ix_one hG c_12
        refine g_aloadn C dX5_fits_27 0 rfl rfl ?_
        refine g_get C fx5 w_0 0 17 (v := .ref (a 10)) rfl (by decide) w_1 rfl dX5_fits_28 ?_
        refine g_iloadn C dX5_fits_31 1 rfl rfl ?_
        refine g_topci (nI j) (ej) ?_
        refine g_iald C 10 (j) (f := (m_sortOf v)) rfl rfl (by omega) (by decide) dX5_fits_32 ?_
        refine g_if_ge C 39 dX5_fits_33 rfl (fun c_33 => ?_) (fun c_33 => ?_)
        · refine g_bipush C 7 dX5_fits_39 (by decide) ?_
          refine g_iconst C 5 dX5_fits_41 (by decide) ?_
          refine g_iloadn C dX5_fits_42 2 rfl rfl ?_
          refine g_topci (nI d) (ed) ?_
          refine g_imul C dX5_fits_43 ?_
          refine g_iadd C dX5_fits_44 ?_
          refine g_iconst C 2 dX5_fits_45 (by decide) ?_
          refine g_iadd C dX5_fits_46 ?_
          refine g_topci (nI (7 + 5 * d + 2)) (ix_add (ix_add rfl (ix_mul rfl rfl)) rfl) ?_
          refine g_istore C [(4, .int (nI (7 + 5 * d + 2))), (0, .ref (a 0)), (1, .int x), (2, .int y), (3, .int z)] dX5_fits_47 (by decide) rfl ?_
          refine g_aloadn C dX5_fits_49 1 rfl rfl ?_
          refine g_get C fx5 w_0 0 0 (v := .ref (a 1)) rfl (by decide) w_2 rfl dX5_fits_50 ?_
          refine g_iload C dX5_fits_53 0 rfl ?_
          refine g_iald C 1 ((7 + 5 * d + 2)) (f := (m_s v)) rfl rfl (by omega) (by decide) dX5_fits_55 ?_
          refine g_istore C [(5, .int ((m_s v) (7 + 5 * d + 2))), (4, .int (nI (7 + 5 * d + 2))), (0, .ref (a 0)), (1, .int x), (2, .int y), (3, .int z)] dX5_fits_56 (by decide) rfl ?_
          refine g_iconst C 0 dX5_fits_58 (by decide) ?_
          refine g_istore C [(6, .int 0), (5, .int ((m_s v) (7 + 5 * d + 2))), (4, .int (nI (7 + 5 * d + 2))), (0, .ref (a 0)), (1, .int x), (2, .int y), (3, .int z)] dX5_fits_59 (by decide) rfl ?_
          refine g_bipush C (-3) dX5_fits_61 (by decide) ?_
          refine g_istore C [(7, .int (-3)), (6, .int 0), (5, .int ((m_s v) (7 + 5 * d + 2))), (4, .int (nI (7 + 5 * d + 2))), (0, .ref (a 0)), (1, .int x), (2, .int y), (3, .int z)] dX5_fits_63 (by decide) rfl ?_
          refine g_bipush C 9 dX5_fits_65 (by decide) ?_
          refine g_topci (eaK 0) (rfl) ?_
          refine g_istore C [(8, .int (eaK 0)), (7, .int (-3)), (6, .int 0), (5, .int ((m_s v) (7 + 5 * d + 2))), (4, .int (nI (7 + 5 * d + 2))), (0, .ref (a 0)), (1, .int x), (2, .int y), (3, .int z)] dX5_fits_67 (by decide) rfl ?_
          have J_69 : ∀ (fu : Nat) (i : Nat) (xx : Int32) (as_ : Nat → Int32) (hd_ : Nat → Int32) (mv : Nat → Int32), 10 - i < fu → (i ≤ 10) → G p l e ({ frames := 6, cells := 0, slots := 0, locals := 135 } : Room) s m args below meth c 10 D A (MQ below (va_Qi (fun (r : Int32) (u : (Nat → Int32) × (Nat → Int32) × (Nat → Int32)) => r = R_fits (m_s v) (m_sortOf v) (m_sizeOf v) (m_numbers v) N x y z) (Bw D A (fun u => (mw q a ((m_s v), (m_held v), u.1, (m_before v), (m_untried v), (m_isHeld v), (m_tape v), (m_taped v), (m_token v), (m_from v), (m_to v), (m_value v), (m_isWrong v), u.2.1, u.2.2, (m_rows v), (m_rowN v), (m_sortOf v), (m_sizeOf v), (m_numbers v), (m_holdsWhat v), (m_holdsWhich v), (m_holdsMany v), (m_bodies v), (m_ran v), (m_actKind v), (m_actN v), (m_actA v), (m_isParted v))))) A) args s 0 0 A) 69 [(0, .ref (a 0)), (1, .int x), (2, .int y), (3, .int z), (4, .int (nI (7 + 5 * d + 2))), (5, .int ((m_s v) (7 + 5 * d + 2))), (6, .int ((ftL (m_s v) (fun k => (m_numbers v) (40 * j + k)) N d n i).1)), (7, .int ((ftL (m_s v) (fun k => (m_numbers v) (40 * j + k)) N d n i).2)), (8, .int (eaK i))] [] (mw q a ((upd (m_s v) (7 + 5 * d + 2) xx), (m_held v), as_, (m_before v), (m_untried v), (m_isHeld v), (m_tape v), (m_taped v), (m_token v), (m_from v), (m_to v), (m_value v), (m_isWrong v), hd_, mv, (m_rows v), (m_rowN v), (m_sortOf v), (m_sizeOf v), (m_numbers v), (m_holdsWhat v), (m_holdsWhich v), (m_holdsMany v), (m_bodies v), (m_ran v), (m_actKind v), (m_actN v), (m_actA v), (m_isParted v))) 0 0 := by
            intro fu
            induction fu with
            | zero =>
              intro i xx as_ hd_ mv hfu
              exact absurd hfu (Nat.not_lt_zero _)
            | succ fu ih =>
              intro i xx as_ hd_ mv hfu hi
              refine g_iload C dX5_fits_69 8 rfl ?_
              refine g_if_lt C 125 dX5_fits_71 rfl (fun c_71 => ?_) (fun c_71 => ?_)
              · refine g_aloadn C dX5_fits_125 0 rfl rfl ?_
                refine g_get C fx5 w_0 0 0 (v := .ref (a 1)) rfl (by decide) w_2 rfl dX5_fits_126 ?_
                refine g_iload C dX5_fits_129 4 rfl ?_
                refine g_iload C dX5_fits_131 5 rfl ?_
                refine g_iast C 1 ((7 + 5 * d + 2)) (f := (upd (m_s v) (7 + 5 * d + 2) xx)) rfl rfl (by omega) (by decide) dX5_fits_133 (mw q a ((upd (upd (m_s v) (7 + 5 * d + 2) xx) (7 + 5 * d + 2) ((m_s v) (7 + 5 * d + 2))), (m_held v), as_, (m_before v), (m_untried v), (m_isHeld v), (m_tape v), (m_taped v), (m_token v), (m_from v), (m_to v), (m_value v), (m_isWrong v), hd_, mv, (m_rows v), (m_rowN v), (m_sortOf v), (m_sizeOf v), (m_numbers v), (m_holdsWhat v), (m_holdsWhich v), (m_holdsMany v), (m_bodies v), (m_ran v), (m_actKind v), (m_actN v), (m_actA v), (m_isParted v))) rfl ?_
                refine g_wsc (mw q a ((m_s v), (m_held v), as_, (m_before v), (m_untried v), (m_isHeld v), (m_tape v), (m_taped v), (m_token v), (m_from v), (m_to v), (m_value v), (m_isWrong v), hd_, mv, (m_rows v), (m_rowN v), (m_sortOf v), (m_sizeOf v), (m_numbers v), (m_holdsWhat v), (m_holdsWhich v), (m_holdsMany v), (m_bodies v), (m_ran v), (m_actKind v), (m_actN v), (m_actA v), (m_isParted v))) (by first | (rw [upd_twice, upd_self]; done) | (rw [upd_twice, upd_self]; rfl)) ?_
                refine g_iloadn C dX5_fits_134 3 rfl rfl ?_
                refine g_if_ne C 143 dX5_fits_135 rfl (fun c_135 => ?_) (fun c_135 => ?_)
                · refine g_iload C dX5_fits_143 7 rfl ?_
                  exact g_iret C (as_, hd_, mv) hr dX5_fits_145 (Nat.le_of_ble_eq_true rfl) (Nat.le_of_ble_eq_true rfl) rfl (by have hg_ : fiG (m_s v) x y z := ⟨c_4, c_12, c_22⟩; unfold R_fits; rw [if_pos hg_, ec, if_neg (Int32.not_lt.mpr c_33), en, nI_clamp (by omega)]; unfold R_fiC; rw [if_neg c_135, ed2, show i = 10 from (ea_lt i (by omega)).mp c_71])
                · refine g_iload C dX5_fits_138 6 rfl ?_
                  refine g_goto C 145 dX5_fits_140 rfl ?_
                  exact g_iret C (as_, hd_, mv) hr dX5_fits_145 (Nat.le_of_ble_eq_true rfl) (Nat.le_of_ble_eq_true rfl) rfl (by have hg_ : fiG (m_s v) x y z := ⟨c_4, c_12, c_22⟩; unfold R_fits; rw [if_pos hg_, ec, if_neg (Int32.not_lt.mpr c_33), en, nI_clamp (by omega)]; unfold R_fiC; rw [if_pos c_135, ed2, show i = 10 from (ea_lt i (by omega)).mp c_71])
              · have hi10 : i < 10 := by have h_ : ¬ i = 10 := fun z_ => c_71 ((ea_lt i (by omega)).mpr z_); omega
                refine g_aloadn C dX5_fits_74 0 rfl rfl ?_
                refine g_get C fx5 w_0 0 0 (v := .ref (a 1)) rfl (by decide) w_2 rfl dX5_fits_75 ?_
                refine g_iload C dX5_fits_78 4 rfl ?_
                refine g_iload C dX5_fits_80 8 rfl ?_
                refine g_topci (nI (9 - i)) ((ea_st i hi10).2.1) ?_
                refine g_iast C 1 ((7 + 5 * d + 2)) (f := (upd (m_s v) (7 + 5 * d + 2) xx)) rfl rfl (by omega) (by decide) dX5_fits_82 (mw q a ((upd (upd (m_s v) (7 + 5 * d + 2) xx) (7 + 5 * d + 2) (nI (9 - i))), (m_held v), as_, (m_before v), (m_untried v), (m_isHeld v), (m_tape v), (m_taped v), (m_token v), (m_from v), (m_to v), (m_value v), (m_isWrong v), hd_, mv, (m_rows v), (m_rowN v), (m_sortOf v), (m_sizeOf v), (m_numbers v), (m_holdsWhat v), (m_holdsWhich v), (m_holdsMany v), (m_bodies v), (m_ran v), (m_actKind v), (m_actN v), (m_actA v), (m_isParted v))) rfl ?_
                refine g_wsc (mw q a ((upd (m_s v) (7 + 5 * d + 2) (nI (9 - i))), (m_held v), as_, (m_before v), (m_untried v), (m_isHeld v), (m_tape v), (m_taped v), (m_token v), (m_from v), (m_to v), (m_value v), (m_isWrong v), hd_, mv, (m_rows v), (m_rowN v), (m_sortOf v), (m_sizeOf v), (m_numbers v), (m_holdsWhat v), (m_holdsWhich v), (m_holdsMany v), (m_bodies v), (m_ran v), (m_actKind v), (m_actN v), (m_actA v), (m_isParted v))) (by rw [upd_twice]) ?_
                refine g_aloadn C dX5_fits_83 0 rfl rfl ?_
                refine g_iloadn C dX5_fits_84 1 rfl rfl ?_
                refine g_topci (nI j) (ej) ?_
                refine g_callAi C (rd_V C (k_X5_isTold l D q tt a ((upd (m_s v) (7 + 5 * d + 2) (nI (9 - i))), (m_held v), as_, (m_before v), (m_untried v), (m_isHeld v), (m_tape v), (m_taped v), (m_token v), (m_from v), (m_to v), (m_value v), (m_isWrong v), hd_, mv, (m_rows v), (m_rowN v), (m_sortOf v), (m_sizeOf v), (m_numbers v), (m_holdsWhat v), (m_holdsWhich v), (m_holdsMany v), (m_bodies v), (m_ran v), (m_actKind v), (m_actN v), (m_actA v), (m_isParted v)) N j n hG.w2 (by first | assumption | omega) (by first | assumption | omega) en) gX5_fits_X5_isTold rfl rfl rfl 1 ok_X5_isTold rfl 0 rfl rfl (rest := []) rfl rfl (Nat.le_of_ble_eq_true rfl) dX5_fits_85 ⟨(Nat.le_of_ble_eq_true rfl), (Nat.le_of_ble_eq_true rfl)⟩ ⟨(Nat.le_of_ble_eq_true rfl), (Nat.le_of_ble_eq_true rfl)⟩) (fun r_85 u_85 h_85 => ?_)
                obtain rfl := h_85
                refine g_wsc (mw q a ((upd (m_s v) (7 + 5 * d + 2) (nI (9 - i))), (m_held v), u_85.1, (m_before v), (m_untried v), (m_isHeld v), (m_tape v), (m_taped v), (m_token v), (m_from v), (m_to v), (m_value v), (m_isWrong v), u_85.2.1, u_85.2.2, (m_rows v), (m_rowN v), (m_sortOf v), (m_sizeOf v), (m_numbers v), (m_holdsWhat v), (m_holdsWhich v), (m_holdsMany v), (m_bodies v), (m_ran v), (m_actKind v), (m_actN v), (m_actA v), (m_isParted v))) rfl ?_
                refine g_topci (bI (tdS (upd (m_s v) (7 + 5 * d + 2) (nI (9 - i))) (fun k => (m_numbers v) (40 * j + k)) N n)) rfl ?_
                refine g_istore C [(9, .int (bI (tdS (upd (m_s v) (7 + 5 * d + 2) (nI (9 - i))) (fun k => (m_numbers v) (40 * j + k)) N n))), (0, .ref (a 0)), (1, .int x), (2, .int y), (3, .int z), (4, .int (nI (7 + 5 * d + 2))), (5, .int ((m_s v) (7 + 5 * d + 2))), (6, .int ((ftL (m_s v) (fun k => (m_numbers v) (40 * j + k)) N d n i).1)), (7, .int ((ftL (m_s v) (fun k => (m_numbers v) (40 * j + k)) N d n i).2)), (8, .int (eaK i))] dX5_fits_88 (by decide) rfl ?_
                refine g_iload C dX5_fits_90 7 rfl ?_
                refine g_iload C dX5_fits_92 0 rfl ?_
                refine g_ifeqE C 101 dX5_fits_94 rfl rfl (fun c_94 => ?_) (fun c_94 => ?_)
                · refine g_iconst C 0 dX5_fits_101 (by decide) ?_
                  refine g_iadd C dX5_fits_102 ?_
                  refine g_topci ((ftL (m_s v) (fun k => (m_numbers v) (40 * j + k)) N d n (i + 1)).1) (by rw [ft_n c_94]; simp) ?_
                  refine g_istore C [(6, .int ((ftL (m_s v) (fun k => (m_numbers v) (40 * j + k)) N d n (i + 1)).1)), (9, .int (bI (tdS (upd (m_s v) (7 + 5 * d + 2) (nI (9 - i))) (fun k => (m_numbers v) (40 * j + k)) N n))), (0, .ref (a 0)), (1, .int x), (2, .int y), (3, .int z), (4, .int (nI (7 + 5 * d + 2))), (5, .int ((m_s v) (7 + 5 * d + 2))), (7, .int ((ftL (m_s v) (fun k => (m_numbers v) (40 * j + k)) N d n i).2)), (8, .int (eaK i))] dX5_fits_103 (by decide) rfl ?_
                  refine g_iload C dX5_fits_105 1 rfl ?_
                  refine g_ifeqE C 115 dX5_fits_107 rfl rfl (fun c_107 => ?_) (fun c_107 => ?_)
                  · refine g_iload C dX5_fits_115 8 rfl ?_
                    refine g_topci ((ftL (m_s v) (fun k => (m_numbers v) (40 * j + k)) N d n (i + 1)).2) (by rw [ft_n c_94]) ?_
                    refine g_istore C [(7, .int ((ftL (m_s v) (fun k => (m_numbers v) (40 * j + k)) N d n (i + 1)).2)), (6, .int ((ftL (m_s v) (fun k => (m_numbers v) (40 * j + k)) N d n (i + 1)).1)), (9, .int (bI (tdS (upd (m_s v) (7 + 5 * d + 2) (nI (9 - i))) (fun k => (m_numbers v) (40 * j + k)) N n))), (0, .ref (a 0)), (1, .int x), (2, .int y), (3, .int z), (4, .int (nI (7 + 5 * d + 2))), (5, .int ((m_s v) (7 + 5 * d + 2))), (8, .int (eaK i))] dX5_fits_117 (by decide) rfl ?_
                    refine g_iinc C (eaK (i + 1)) [(8, .int (eaK (i + 1))), (7, .int ((ftL (m_s v) (fun k => (m_numbers v) (40 * j + k)) N d n (i + 1)).2)), (6, .int ((ftL (m_s v) (fun k => (m_numbers v) (40 * j + k)) N d n (i + 1)).1)), (9, .int (bI (tdS (upd (m_s v) (7 + 5 * d + 2) (nI (9 - i))) (fun k => (m_numbers v) (40 * j + k)) N n))), (0, .ref (a 0)), (1, .int x), (2, .int y), (3, .int z), (4, .int (nI (7 + 5 * d + 2))), (5, .int ((m_s v) (7 + 5 * d + 2)))] dX5_fits_119 9 rfl (ea_st i hi10).1 (by decide) rfl ?_
                    refine g_goto C 69 dX5_fits_122 rfl ?_
                    refine g_sub [4, 5, 6, 7, 8, 9, 2, 1, 0] (lv' := [(0, .ref (a 0)), (1, .int x), (2, .int y), (3, .int z), (4, .int (nI (7 + 5 * d + 2))), (5, .int ((m_s v) (7 + 5 * d + 2))), (6, .int ((ftL (m_s v) (fun k => (m_numbers v) (40 * j + k)) N d n (i + 1)).1)), (7, .int ((ftL (m_s v) (fun k => (m_numbers v) (40 * j + k)) N d n (i + 1)).2)), (8, .int (eaK (i + 1)))]) rfl ?_
                    exact ih ((i + 1)) ((nI (9 - i))) (u_85.1) (u_85.2.1) (u_85.2.2) (by omega) (by first | assumption | omega)
                  · exfalso
                    exact c_94 c_107
                · refine g_iconst C 1 dX5_fits_97 (by decide) ?_
                  refine g_goto C 102 dX5_fits_98 rfl ?_
                  refine g_iadd C dX5_fits_102 ?_
                  refine g_topci ((ftL (m_s v) (fun k => (m_numbers v) (40 * j + k)) N d n (i + 1)).1) (by rw [ft_y c_94]) ?_
                  refine g_istore C [(6, .int ((ftL (m_s v) (fun k => (m_numbers v) (40 * j + k)) N d n (i + 1)).1)), (9, .int (bI (tdS (upd (m_s v) (7 + 5 * d + 2) (nI (9 - i))) (fun k => (m_numbers v) (40 * j + k)) N n))), (0, .ref (a 0)), (1, .int x), (2, .int y), (3, .int z), (4, .int (nI (7 + 5 * d + 2))), (5, .int ((m_s v) (7 + 5 * d + 2))), (7, .int ((ftL (m_s v) (fun k => (m_numbers v) (40 * j + k)) N d n i).2)), (8, .int (eaK i))] dX5_fits_103 (by decide) rfl ?_
                  refine g_iload C dX5_fits_105 1 rfl ?_
                  refine g_ifeqE C 115 dX5_fits_107 rfl rfl (fun c_107 => ?_) (fun c_107 => ?_)
                  · exfalso
                    exact c_107 c_94
                  · refine g_iload C dX5_fits_110 9 rfl ?_
                    refine g_goto C 117 dX5_fits_112 rfl ?_
                    refine g_topci ((ftL (m_s v) (fun k => (m_numbers v) (40 * j + k)) N d n (i + 1)).2) (by rw [ft_y c_94]; exact (ea_st i hi10).2.1) ?_
                    refine g_istore C [(7, .int ((ftL (m_s v) (fun k => (m_numbers v) (40 * j + k)) N d n (i + 1)).2)), (6, .int ((ftL (m_s v) (fun k => (m_numbers v) (40 * j + k)) N d n (i + 1)).1)), (9, .int (bI (tdS (upd (m_s v) (7 + 5 * d + 2) (nI (9 - i))) (fun k => (m_numbers v) (40 * j + k)) N n))), (0, .ref (a 0)), (1, .int x), (2, .int y), (3, .int z), (4, .int (nI (7 + 5 * d + 2))), (5, .int ((m_s v) (7 + 5 * d + 2))), (8, .int (eaK i))] dX5_fits_117 (by decide) rfl ?_
                    refine g_iinc C (eaK (i + 1)) [(8, .int (eaK (i + 1))), (7, .int ((ftL (m_s v) (fun k => (m_numbers v) (40 * j + k)) N d n (i + 1)).2)), (6, .int ((ftL (m_s v) (fun k => (m_numbers v) (40 * j + k)) N d n (i + 1)).1)), (9, .int (bI (tdS (upd (m_s v) (7 + 5 * d + 2) (nI (9 - i))) (fun k => (m_numbers v) (40 * j + k)) N n))), (0, .ref (a 0)), (1, .int x), (2, .int y), (3, .int z), (4, .int (nI (7 + 5 * d + 2))), (5, .int ((m_s v) (7 + 5 * d + 2)))] dX5_fits_119 9 rfl (ea_st i hi10).1 (by decide) rfl ?_
                    refine g_goto C 69 dX5_fits_122 rfl ?_
                    refine g_sub [4, 5, 6, 7, 8, 9, 2, 1, 0] (lv' := [(0, .ref (a 0)), (1, .int x), (2, .int y), (3, .int z), (4, .int (nI (7 + 5 * d + 2))), (5, .int ((m_s v) (7 + 5 * d + 2))), (6, .int ((ftL (m_s v) (fun k => (m_numbers v) (40 * j + k)) N d n (i + 1)).1)), (7, .int ((ftL (m_s v) (fun k => (m_numbers v) (40 * j + k)) N d n (i + 1)).2)), (8, .int (eaK (i + 1)))]) rfl ?_
                    exact ih ((i + 1)) ((nI (9 - i))) (u_85.1) (u_85.2.1) (u_85.2.2) (by omega) (by first | assumption | omega)
          refine g_wsc (mw q a ((upd (m_s v) (7 + 5 * d + 2) ((m_s v) (7 + 5 * d + 2))), (m_held v), (m_aside v), (m_before v), (m_untried v), (m_isHeld v), (m_tape v), (m_taped v), (m_token v), (m_from v), (m_to v), (m_value v), (m_isWrong v), (m_heard v), (m_isMoved v), (m_rows v), (m_rowN v), (m_sortOf v), (m_sizeOf v), (m_numbers v), (m_holdsWhat v), (m_holdsWhich v), (m_holdsMany v), (m_bodies v), (m_ran v), (m_actKind v), (m_actN v), (m_actA v), (m_isParted v))) (by first | (rw [upd_self]; done) | (rw [upd_self]; rfl)) ?_
          refine g_sub [5, 6, 7, 8, 4, 3, 2, 1, 0] (lv' := [(0, .ref (a 0)), (1, .int x), (2, .int y), (3, .int z), (4, .int (nI (7 + 5 * d + 2))), (5, .int ((m_s v) (7 + 5 * d + 2))), (6, .int 0), (7, .int (-3)), (8, .int (eaK 0))]) rfl ?_
          exact J_69 _ (0) (((m_s v) (7 + 5 * d + 2))) ((m_aside v)) ((m_heard v)) ((m_isMoved v)) (Nat.lt_succ_self _) (by first | assumption | omega)
        · refine g_bipush C (-11) dX5_fits_36 (by decide) ?_
          exact g_iret C ((m_aside v), (m_heard v), (m_isMoved v)) hr dX5_fits_38 (Nat.le_of_ble_eq_true rfl) (Nat.le_of_ble_eq_true rfl) rfl (by have hg_ : fiG (m_s v) x y z := ⟨c_4, c_12, c_22⟩; unfold R_fits; rw [if_pos hg_, ec, if_pos (Int32.not_le.mp c_33)])
      · refine g_iconst C (-1) dX5_fits_25 (by decide) ?_
        exact g_iret C ((m_aside v), (m_heard v), (m_isMoved v)) hr dX5_fits_26 (Nat.le_of_ble_eq_true rfl) (Nat.le_of_ble_eq_true rfl) rfl (by have hn_ : ¬ fiG (m_s v) x y z := fun h => c_22 h.2.2; unfold R_fits; rw [if_neg hn_])

