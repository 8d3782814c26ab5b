set_option maxRecDepth 100000 in
set_option maxHeartbeats 4000000 in
theorem k_X5_goesOn (l : Launch) (D : va_G) (q : Nat → ClassId) (tt : Nat → Nat) (a : Nat → Nat) (v : MC) (N : Nat) (hG : Gd (m_s v) N) : MV l D q tt yX5_goesOn wsX5_goesOn ({ frames := 4, cells := 0, slots := 0, locals := 91 } : Room) [.ref (a 0)] (mw q a v) (fun (u : (Nat → Int32) × (Nat → Int32)) => True) (fun u => (mw q a ((goS (m_s v) N), (m_held v), (m_aside v), (m_before v), (m_untried v), (m_isHeld v), (m_tape v), (m_taped v), (m_token v), (m_from v), (m_to v), (m_value v), (m_isWrong v), u.1, u.2, (m_rows v), (m_rowN v), (m_sortOf v), (m_sizeOf v), (m_numbers v), (m_holdsWhat v), (m_holdsWhich v), (m_holdsMany v), (m_bodies v), (m_ran v), (m_actKind v), (m_actN v), (m_actA v), (m_isParted v)))) 0 0 := by
  refine MV.of RX5 [(0, .ref (a 0))] (by decide) rfl rfl (Nat.le_of_ble_eq_true rfl) rfl ?_
  intro p e s m args below meth c A C hr hnm
  have w_0 : ∀ w ∈ u_ws RX5 TX5 29, w ∈ wsX5_goesOn := by decide +kernel
  have w_1 : Cond.fieldLink RX5 7 (TX5 0).1 (TX5 0).2.1 (TX5 0).2.2.1 ∈ wsX5_goesOn := by decide +kernel
  have w_2 : Cond.fieldLink RX5 28 (TX5 13).1 (TX5 13).2.1 (TX5 13).2.2.1 ∈ wsX5_goesOn := by decide +kernel
  have w_3 : Cond.fieldLink RX5 31 (TX5 14).1 (TX5 14).2.1 (TX5 14).2.2.1 ∈ wsX5_goesOn := by decide +kernel
  have h8 := hG.le
  refine g_iconst C 0 dX5_goesOn_0 (by decide) ?_
  refine g_istoren C [(1, .int 0), (0, .ref (a 0))] dX5_goesOn_1 rfl (by decide) rfl ?_
  have J_2 : ∀ (fu : Nat) (i : Nat) (hd : Nat → Int32) (mv : Nat → Int32), N - i < fu → (i ≤ N) → (∀ k, k < i → hd k = heS (m_s v) N k ∧ mv k = bI (neS (m_s v) k ≤ heS (m_s v) N k)) → G p l e ({ frames := 4, cells := 0, slots := 0, locals := 91 } : Room) s m args below meth c 2 D A (MQ below (va_Qv (fun (u : (Nat → Int32) × (Nat → Int32)) => True) (Bw D A (fun u => (mw q a ((goS (m_s v) N), (m_held v), (m_aside v), (m_before v), (m_untried v), (m_isHeld v), (m_tape v), (m_taped v), (m_token v), (m_from v), (m_to v), (m_value v), (m_isWrong v), u.1, u.2, (m_rows v), (m_rowN v), (m_sortOf v), (m_sizeOf v), (m_numbers v), (m_holdsWhat v), (m_holdsWhich v), (m_holdsMany v), (m_bodies v), (m_ran v), (m_actKind v), (m_actN v), (m_actA v), (m_isParted v))))) A) args s 0 0 A) 2 [(0, .ref (a 0)), (1, .int (nI i))] [] (mw q a ((m_s v), (m_held v), (m_aside v), (m_before v), (m_untried v), (m_isHeld v), (m_tape v), (m_taped v), (m_token v), (m_from v), (m_to v), (m_value v), (m_isWrong v), hd, mv, (m_rows v), (m_rowN v), (m_sortOf v), (m_sizeOf v), (m_numbers v), (m_holdsWhat v), (m_holdsWhich v), (m_holdsMany v), (m_bodies v), (m_ran v), (m_actKind v), (m_actN v), (m_actA v), (m_isParted v))) 0 0 := by
    intro fu
    induction fu with
    | zero =>
      intro i hd mv hfu
      exact absurd hfu (Nat.not_lt_zero _)
    | succ fu ih =>
      intro i hd mv hfu hi hh
      refine g_iloadn C dX5_goesOn_2 1 rfl rfl ?_
      refine g_aloadn C dX5_goesOn_3 0 rfl rfl ?_
      refine g_get C fx5 w_0 0 0 (v := .ref (a 1)) rfl (by decide) w_1 rfl dX5_goesOn_4 ?_
      refine g_iconst C 0 dX5_goesOn_7 (by decide) ?_
      refine g_iald C 1 (0) (f := (m_s v)) rfl rfl (by omega) (by decide) dX5_goesOn_8 ?_
      refine g_topci (nI N) (hG.n) ?_
      refine g_icmpN_ge C 54 (i) (N) dX5_goesOn_9 rfl (by omega) (by omega) (fun c_9 => ?_) (fun c_9 => ?_)
      · have hh2 : ∀ k, k < N → hd k = heS (m_s v) N k ∧ mv k = bI (neS (m_s v) k ≤ heS (m_s v) N k) := fun k hk => hh k (by omega)
        clear hh
        refine g_iconst C 0 dX5_goesOn_54 (by decide) ?_
        refine g_istoren C [(1, .int 0), (0, .ref (a 0))] dX5_goesOn_55 rfl (by decide) rfl ?_
        have J_56 : ∀ (fu : Nat) (i : Nat), N - i < fu → (i ≤ N) → G p l e ({ frames := 4, cells := 0, slots := 0, locals := 91 } : Room) s m args below meth c 2 D A (MQ below (va_Qv (fun (u : (Nat → Int32) × (Nat → Int32)) => True) (Bw D A (fun u => (mw q a ((goS (m_s v) N), (m_held v), (m_aside v), (m_before v), (m_untried v), (m_isHeld v), (m_tape v), (m_taped v), (m_token v), (m_from v), (m_to v), (m_value v), (m_isWrong v), u.1, u.2, (m_rows v), (m_rowN v), (m_sortOf v), (m_sizeOf v), (m_numbers v), (m_holdsWhat v), (m_holdsWhich v), (m_holdsMany v), (m_bodies v), (m_ran v), (m_actKind v), (m_actN v), (m_actA v), (m_isParted v))))) A) args s 0 0 A) 56 [(0, .ref (a 0)), (1, .int (nI i))] [] (mw q a ((goP (m_s v) N i), (m_held v), (m_aside v), (m_before v), (m_untried v), (m_isHeld v), (m_tape v), (m_taped v), (m_token v), (m_from v), (m_to v), (m_value v), (m_isWrong v), hd, mv, (m_rows v), (m_rowN v), (m_sortOf v), (m_sizeOf v), (m_numbers v), (m_holdsWhat v), (m_holdsWhich v), (m_holdsMany v), (m_bodies v), (m_ran v), (m_actKind v), (m_actN v), (m_actA v), (m_isParted v))) 0 0 := by
          intro fu
          induction fu with
          | zero =>
            intro i hfu
            exact absurd hfu (Nat.not_lt_zero _)
          | succ fu ih =>
            intro i hfu hi
            refine g_iloadn C dX5_goesOn_56 1 rfl rfl ?_
            refine g_aloadn C dX5_goesOn_57 0 rfl rfl ?_
            refine g_get C fx5 w_0 0 0 (v := .ref (a 1)) rfl (by decide) w_1 rfl dX5_goesOn_58 ?_
            refine g_iconst C 0 dX5_goesOn_61 (by decide) ?_
            refine g_iald C 1 (0) (f := (goP (m_s v) N i)) rfl rfl (by omega) (by decide) dX5_goesOn_62 ?_
            refine g_topci (nI N) ((goP_out (by omega)).trans hG.n) ?_
            refine g_icmpN_ge C 128 (i) (N) dX5_goesOn_63 rfl (by omega) (by omega) (fun c_63 => ?_) (fun c_63 => ?_)
            · refine g_aloadn C dX5_goesOn_128 0 rfl rfl ?_
              refine g_get C fx5 w_0 0 0 (v := .ref (a 1)) rfl (by decide) w_1 rfl dX5_goesOn_129 ?_
              refine g_iconst C 1 dX5_goesOn_132 (by decide) ?_
              refine g_dup2 C dX5_goesOn_133 rfl rfl ?_
              refine g_iald C 1 (1) (f := (goP (m_s v) N i)) rfl rfl (by omega) (by decide) dX5_goesOn_134 ?_
              refine g_iconst C 1 dX5_goesOn_135 (by decide) ?_
              refine g_iadd C dX5_goesOn_136 ?_
              refine g_iast C 1 (1) (f := (goP (m_s v) N i)) rfl rfl (by omega) (by decide) dX5_goesOn_137 (mw q a ((upd (goP (m_s v) N i) 1 (((goP (m_s v) N i) 1) + 1)), (m_held v), (m_aside v), (m_before v), (m_untried v), (m_isHeld v), (m_tape v), (m_taped v), (m_token v), (m_from v), (m_to v), (m_value v), (m_isWrong v), hd, mv, (m_rows v), (m_rowN v), (m_sortOf v), (m_sizeOf v), (m_numbers v), (m_holdsWhat v), (m_holdsWhich v), (m_holdsMany v), (m_bodies v), (m_ran v), (m_actKind v), (m_actN v), (m_actA v), (m_isParted v))) rfl ?_
              refine g_wsc (mw q a ((goS (m_s v) N), (m_held v), (m_aside v), (m_before v), (m_untried v), (m_isHeld v), (m_tape v), (m_taped v), (m_token v), (m_from v), (m_to v), (m_value v), (m_isWrong v), hd, mv, (m_rows v), (m_rowN v), (m_sortOf v), (m_sizeOf v), (m_numbers v), (m_holdsWhat v), (m_holdsWhich v), (m_holdsMany v), (m_bodies v), (m_ran v), (m_actKind v), (m_actN v), (m_actA v), (m_isParted v))) (by have e : i = N := (by omega); rw [e, goP_out (k := 1) (by omega)]; first | done | rfl) ?_
              exact g_vret C (hd, mv) hr dX5_goesOn_138 (Nat.le_of_ble_eq_true rfl) (Nat.le_of_ble_eq_true rfl) rfl (trivial)
            · refine g_aloadn C dX5_goesOn_66 0 rfl rfl ?_
              refine g_get C fx5 w_0 0 0 (v := .ref (a 1)) rfl (by decide) w_1 rfl dX5_goesOn_67 ?_
              refine g_bipush C 7 dX5_goesOn_70 (by decide) ?_
              refine g_iconst C 5 dX5_goesOn_72 (by decide) ?_
              refine g_iloadn C dX5_goesOn_73 1 rfl rfl ?_
              refine g_imul C dX5_goesOn_74 ?_
              refine g_iadd C dX5_goesOn_75 ?_
              refine g_iconst C 1 dX5_goesOn_76 (by decide) ?_
              refine g_iadd C dX5_goesOn_77 ?_
              refine g_aloadn C dX5_goesOn_78 0 rfl rfl ?_
              refine g_iloadn C dX5_goesOn_79 1 rfl rfl ?_
              refine g_iconst C 1 dX5_goesOn_80 (by decide) ?_
              refine g_callAi C (rd_V C (k_X5_its l D q tt a ((goP (m_s v) N i), (m_held v), (m_aside v), (m_before v), (m_untried v), (m_isHeld v), (m_tape v), (m_taped v), (m_token v), (m_from v), (m_to v), (m_value v), (m_isWrong v), hd, mv, (m_rows v), (m_rowN v), (m_sortOf v), (m_sizeOf v), (m_numbers v), (m_holdsWhat v), (m_holdsWhich v), (m_holdsMany v), (m_bodies v), (m_ran v), (m_actKind v), (m_actN v), (m_actA v), (m_isParted v)) i 1 (by first | assumption | omega) (by first | assumption | omega)) gX5_goesOn_X5_its rfl rfl rfl 2 ok_X5_its rfl 0 rfl rfl (rest := [.int ((7 + (5 * (nI i))) + 1), .ref (a 1)]) rfl rfl (Nat.le_of_ble_eq_true rfl) dX5_goesOn_81 ⟨(Nat.le_of_ble_eq_true rfl), (Nat.le_of_ble_eq_true rfl)⟩ ⟨(Nat.le_of_ble_eq_true rfl), (Nat.le_of_ble_eq_true rfl)⟩) (fun r_81 _ h_81 => ?_)
              obtain rfl := h_81
              refine g_topci ((goP (m_s v) N i) (7 + 5 * i + 1)) rfl ?_
              refine g_topci ((goP (m_s v) N i) (7 + 5 * i + 1)) (rfl) ?_
              refine g_aloadn C dX5_goesOn_84 0 rfl rfl ?_
              refine g_get C fx5 w_0 0 13 (v := .ref (a 7)) rfl (by decide) w_2 rfl dX5_goesOn_85 ?_
              refine g_iloadn C dX5_goesOn_88 1 rfl rfl ?_
              refine g_iald C 7 (i) (f := hd) rfl rfl (by omega) (by decide) dX5_goesOn_89 ?_
              refine g_topci (heS (m_s v) N i) ((hh2 i (by omega)).1) ?_
              refine g_iadd C dX5_goesOn_90 ?_
              refine g_topci (sP (m_s v) i + heS (m_s v) N i) (by rw [goP_out (by omega)]; rfl) ?_
              refine g_call0i C (rd_S C (k_X5_within l D q tt (sP (m_s v) i + heS (m_s v) N i) ) gX5_goesOn_X5_within rfl rfl rfl 1 ok_X5_within (rest := [.int ((7 + (5 * (nI i))) + 1), .ref (a 1)]) rfl rfl (Nat.le_of_ble_eq_true rfl) dX5_goesOn_91 ⟨(Nat.le_of_ble_eq_true rfl), (Nat.le_of_ble_eq_true rfl)⟩ ⟨(Nat.le_of_ble_eq_true rfl), (Nat.le_of_ble_eq_true rfl)⟩) (fun _ => rfl) (fun r_91 _ h_91 => ?_)
              obtain rfl := h_91
              refine g_iast C 1 (((7 + (5 * i)) + 1)) (f := (goP (m_s v) N i)) rfl (ix_add (ix_add rfl (ix_mul rfl rfl)) rfl) (by omega) (by decide) dX5_goesOn_94 (mw q a ((upd (goP (m_s v) N i) ((7 + (5 * i)) + 1) (wiS (sP (m_s v) i + heS (m_s v) N i))), (m_held v), (m_aside v), (m_before v), (m_untried v), (m_isHeld v), (m_tape v), (m_taped v), (m_token v), (m_from v), (m_to v), (m_value v), (m_isWrong v), hd, mv, (m_rows v), (m_rowN v), (m_sortOf v), (m_sizeOf v), (m_numbers v), (m_holdsWhat v), (m_holdsWhich v), (m_holdsMany v), (m_bodies v), (m_ran v), (m_actKind v), (m_actN v), (m_actA v), (m_isParted v))) rfl ?_
              refine g_aloadn C dX5_goesOn_95 0 rfl rfl ?_
              refine g_get C fx5 w_0 0 0 (v := .ref (a 1)) rfl (by decide) w_1 rfl dX5_goesOn_96 ?_
              refine g_bipush C 7 dX5_goesOn_99 (by decide) ?_
              refine g_iconst C 5 dX5_goesOn_101 (by decide) ?_
              refine g_iloadn C dX5_goesOn_102 1 rfl rfl ?_
              refine g_imul C dX5_goesOn_103 ?_
              refine g_iadd C dX5_goesOn_104 ?_
              refine g_iconst C 4 dX5_goesOn_105 (by decide) ?_
              refine g_iadd C dX5_goesOn_106 ?_
              refine g_aloadn C dX5_goesOn_107 0 rfl rfl ?_
              refine g_get C fx5 w_0 0 14 (v := .ref (a 8)) rfl (by decide) w_3 rfl dX5_goesOn_108 ?_
              refine g_iloadn C dX5_goesOn_111 1 rfl rfl ?_
              refine g_zald C 8 (i) (f := mv) rfl rfl (by omega) (by decide) dX5_goesOn_112 ?_
              refine g_topci (bI (neS (m_s v) i ≤ heS (m_s v) N i)) ((hh2 i (by omega)).2) ?_
              refine g_ifeqE C 120 dX5_goesOn_113 rfl rfl (fun c_113 => ?_) (fun c_113 => ?_)
              · refine g_iconst C 0 dX5_goesOn_120 (by decide) ?_
                refine g_topci (bI (neS (m_s v) i ≤ heS (m_s v) N i)) ((bI_n c_113).symm) ?_
                refine g_iast C 1 (((7 + (5 * i)) + 4)) (f := (upd (goP (m_s v) N i) ((7 + (5 * i)) + 1) (wiS (sP (m_s v) i + heS (m_s v) N i)))) rfl (ix_add (ix_add rfl (ix_mul rfl rfl)) rfl) (by omega) (by decide) dX5_goesOn_121 (mw q a ((upd (upd (goP (m_s v) N i) ((7 + (5 * i)) + 1) (wiS (sP (m_s v) i + heS (m_s v) N i))) ((7 + (5 * i)) + 4) (bI (neS (m_s v) i ≤ heS (m_s v) N i))), (m_held v), (m_aside v), (m_before v), (m_untried v), (m_isHeld v), (m_tape v), (m_taped v), (m_token v), (m_from v), (m_to v), (m_value v), (m_isWrong v), hd, mv, (m_rows v), (m_rowN v), (m_sortOf v), (m_sizeOf v), (m_numbers v), (m_holdsWhat v), (m_holdsWhich v), (m_holdsMany v), (m_bodies v), (m_ran v), (m_actKind v), (m_actN v), (m_actA v), (m_isParted v))) rfl ?_
                refine g_wsc (mw q a ((goP (m_s v) N (i + 1)), (m_held v), (m_aside v), (m_before v), (m_untried v), (m_isHeld v), (m_tape v), (m_taped v), (m_token v), (m_from v), (m_to v), (m_value v), (m_isWrong v), hd, mv, (m_rows v), (m_rowN v), (m_sortOf v), (m_sizeOf v), (m_numbers v), (m_holdsWhat v), (m_holdsWhich v), (m_holdsMany v), (m_bodies v), (m_ran v), (m_actKind v), (m_actN v), (m_actA v), (m_isParted v))) (by rw [goP_step]) ?_
                refine g_iinc C (nI (i + 1)) [(1, .int (nI (i + 1))), (0, .ref (a 0))] dX5_goesOn_122 1 rfl (nI_add i 1) (by decide) rfl ?_
                refine g_goto C 56 dX5_goesOn_125 rfl ?_
                refine g_sub [1, 0] (lv' := [(0, .ref (a 0)), (1, .int (nI (i + 1)))]) rfl ?_
                exact ih ((i + 1)) (by omega) (by first | assumption | omega)
              · refine g_iconst C 1 dX5_goesOn_116 (by decide) ?_
                refine g_goto C 121 dX5_goesOn_117 rfl ?_
                refine g_topci (bI (neS (m_s v) i ≤ heS (m_s v) N i)) ((bI_t c_113).symm) ?_
                refine g_iast C 1 (((7 + (5 * i)) + 4)) (f := (upd (goP (m_s v) N i) ((7 + (5 * i)) + 1) (wiS (sP (m_s v) i + heS (m_s v) N i)))) rfl (ix_add (ix_add rfl (ix_mul rfl rfl)) rfl) (by omega) (by decide) dX5_goesOn_121 (mw q a ((upd (upd (goP (m_s v) N i) ((7 + (5 * i)) + 1) (wiS (sP (m_s v) i + heS (m_s v) N i))) ((7 + (5 * i)) + 4) (bI (neS (m_s v) i ≤ heS (m_s v) N i))), (m_held v), (m_aside v), (m_before v), (m_untried v), (m_isHeld v), (m_tape v), (m_taped v), (m_token v), (m_from v), (m_to v), (m_value v), (m_isWrong v), hd, mv, (m_rows v), (m_rowN v), (m_sortOf v), (m_sizeOf v), (m_numbers v), (m_holdsWhat v), (m_holdsWhich v), (m_holdsMany v), (m_bodies v), (m_ran v), (m_actKind v), (m_actN v), (m_actA v), (m_isParted v))) rfl ?_
                refine g_wsc (mw q a ((goP (m_s v) N (i + 1)), (m_held v), (m_aside v), (m_before v), (m_untried v), (m_isHeld v), (m_tape v), (m_taped v), (m_token v), (m_from v), (m_to v), (m_value v), (m_isWrong v), hd, mv, (m_rows v), (m_rowN v), (m_sortOf v), (m_sizeOf v), (m_numbers v), (m_holdsWhat v), (m_holdsWhich v), (m_holdsMany v), (m_bodies v), (m_ran v), (m_actKind v), (m_actN v), (m_actA v), (m_isParted v))) (by rw [goP_step]) ?_
                refine g_iinc C (nI (i + 1)) [(1, .int (nI (i + 1))), (0, .ref (a 0))] dX5_goesOn_122 1 rfl (nI_add i 1) (by decide) rfl ?_
                refine g_goto C 56 dX5_goesOn_125 rfl ?_
                refine g_sub [1, 0] (lv' := [(0, .ref (a 0)), (1, .int (nI (i + 1)))]) rfl ?_
                exact ih ((i + 1)) (by omega) (by first | assumption | omega)
        refine g_wsc (mw q a ((goP (m_s v) N 0), (m_held v), (m_aside v), (m_before v), (m_untried v), (m_isHeld v), (m_tape v), (m_taped v), (m_token v), (m_from v), (m_to v), (m_value v), (m_isWrong v), hd, mv, (m_rows v), (m_rowN v), (m_sortOf v), (m_sizeOf v), (m_numbers v), (m_holdsWhat v), (m_holdsWhich v), (m_holdsMany v), (m_bodies v), (m_ran v), (m_actKind v), (m_actN v), (m_actA v), (m_isParted v))) (by first | (rw [goP_0]; done) | (rw [goP_0]; rfl)) ?_
        refine g_sub [1, 0] (lv' := [(0, .ref (a 0)), (1, .int 0)]) rfl ?_
        exact J_56 _ (0) (Nat.lt_succ_self _) (by first | assumption | omega)
      · refine g_aloadn C dX5_goesOn_12 0 rfl rfl ?_
        refine g_get C fx5 w_0 0 13 (v := .ref (a 7)) rfl (by decide) w_2 rfl dX5_goesOn_13 ?_
        refine g_iloadn C dX5_goesOn_16 1 rfl rfl ?_
        refine g_aloadn C dX5_goesOn_17 0 rfl rfl ?_
        refine g_iloadn C dX5_goesOn_18 1 rfl rfl ?_
        refine g_callAi C (rd_V C (k_X5_hears l D q tt a ((m_s v), (m_held v), (m_aside v), (m_before v), (m_untried v), (m_isHeld v), (m_tape v), (m_taped v), (m_token v), (m_from v), (m_to v), (m_value v), (m_isWrong v), hd, mv, (m_rows v), (m_rowN v), (m_sortOf v), (m_sizeOf v), (m_numbers v), (m_holdsWhat v), (m_holdsWhich v), (m_holdsMany v), (m_bodies v), (m_ran v), (m_actKind v), (m_actN v), (m_actA v), (m_isParted v)) N i (by first | assumption | omega) (by first | assumption | omega)) gX5_goesOn_X5_hears rfl rfl rfl 1 ok_X5_hears rfl 0 rfl rfl (rest := [.int (nI i), .ref (a 7)]) rfl rfl (Nat.le_of_ble_eq_true rfl) dX5_goesOn_19 ⟨(Nat.le_of_ble_eq_true rfl), (Nat.le_of_ble_eq_true rfl)⟩ ⟨(Nat.le_of_ble_eq_true rfl), (Nat.le_of_ble_eq_true rfl)⟩) (fun r_19 _ h_19 => ?_)
        obtain rfl := h_19
        refine g_topci (heS (m_s v) N i) rfl ?_
        refine g_iast C 7 (i) (f := hd) rfl rfl (by omega) (by decide) dX5_goesOn_22 (mw q a ((m_s v), (m_held v), (m_aside v), (m_before v), (m_untried v), (m_isHeld v), (m_tape v), (m_taped v), (m_token v), (m_from v), (m_to v), (m_value v), (m_isWrong v), (upd hd i (heS (m_s v) N i)), mv, (m_rows v), (m_rowN v), (m_sortOf v), (m_sizeOf v), (m_numbers v), (m_holdsWhat v), (m_holdsWhich v), (m_holdsMany v), (m_bodies v), (m_ran v), (m_actKind v), (m_actN v), (m_actA v), (m_isParted v))) rfl ?_
        refine g_aloadn C dX5_goesOn_23 0 rfl rfl ?_
        refine g_get C fx5 w_0 0 14 (v := .ref (a 8)) rfl (by decide) w_3 rfl dX5_goesOn_24 ?_
        refine g_iloadn C dX5_goesOn_27 1 rfl rfl ?_
        refine g_aloadn C dX5_goesOn_28 0 rfl rfl ?_
        refine g_get C fx5 w_0 0 13 (v := .ref (a 7)) rfl (by decide) w_2 rfl dX5_goesOn_29 ?_
        refine g_iloadn C dX5_goesOn_32 1 rfl rfl ?_
        refine g_iald C 7 (i) (f := (upd hd i (heS (m_s v) N i))) rfl rfl (by omega) (by decide) dX5_goesOn_33 ?_
        refine g_topci (heS (m_s v) N i) (pk_us) ?_
        refine g_aloadn C dX5_goesOn_34 0 rfl rfl ?_
        refine g_iloadn C dX5_goesOn_35 1 rfl rfl ?_
        refine g_callAi C (rd_V C (k_X5_needsOf l D q tt a ((m_s v), (m_held v), (m_aside v), (m_before v), (m_untried v), (m_isHeld v), (m_tape v), (m_taped v), (m_token v), (m_from v), (m_to v), (m_value v), (m_isWrong v), (upd hd i (heS (m_s v) N i)), mv, (m_rows v), (m_rowN v), (m_sortOf v), (m_sizeOf v), (m_numbers v), (m_holdsWhat v), (m_holdsWhich v), (m_holdsMany v), (m_bodies v), (m_ran v), (m_actKind v), (m_actN v), (m_actA v), (m_isParted v)) N i (by first | assumption | omega) (by first | assumption | omega)) gX5_goesOn_X5_needsOf rfl rfl rfl 1 ok_X5_needsOf rfl 0 rfl rfl (rest := [.int (heS (m_s v) N i), .int (nI i), .ref (a 8)]) rfl rfl (Nat.le_of_ble_eq_true rfl) dX5_goesOn_36 ⟨(Nat.le_of_ble_eq_true rfl), (Nat.le_of_ble_eq_true rfl)⟩ ⟨(Nat.le_of_ble_eq_true rfl), (Nat.le_of_ble_eq_true rfl)⟩) (fun r_36 _ h_36 => ?_)
        obtain rfl := h_36
        refine g_topci (neS (m_s v) i) rfl ?_
        refine g_icmp_lt C 46 dX5_goesOn_39 rfl (fun c_39 => ?_) (fun c_39 => ?_)
        · refine g_iconst C 0 dX5_goesOn_46 (by decide) ?_
          refine g_zast C 8 (i) (f := mv) rfl rfl (by omega) (by decide) dX5_goesOn_47 (mw q a ((m_s v), (m_held v), (m_aside v), (m_before v), (m_untried v), (m_isHeld v), (m_tape v), (m_taped v), (m_token v), (m_from v), (m_to v), (m_value v), (m_isWrong v), (upd hd i (heS (m_s v) N i)), (upd mv i (vp_nar .boolean 0)), (m_rows v), (m_rowN v), (m_sortOf v), (m_sizeOf v), (m_numbers v), (m_holdsWhat v), (m_holdsWhich v), (m_holdsMany v), (m_bodies v), (m_ran v), (m_actKind v), (m_actN v), (m_actA v), (m_isParted v))) rfl ?_
          refine g_iinc C (nI (i + 1)) [(1, .int (nI (i + 1))), (0, .ref (a 0))] dX5_goesOn_48 1 rfl (nI_add i 1) (by decide) rfl ?_
          refine g_goto C 2 dX5_goesOn_51 rfl ?_
          refine g_sub [1, 0] (lv' := [(0, .ref (a 0)), (1, .int (nI (i + 1)))]) rfl ?_
          exact ih ((i + 1)) ((upd hd i (heS (m_s v) N i))) ((upd mv i (vp_nar .boolean 0))) (by omega) (by first | assumption | omega) (by
              intro k hk
              by_cases e : k = i
              · subst e
                refine ⟨pk_us, ?_⟩
                rw [pk_us]
                first | exact (bI_t (Int32.not_lt.mp c_39)).symm | exact (bI_n (Int32.not_le.mpr c_39)).symm
              · have := hh k (by omega)
                rw [pk_un e, pk_un e]
                exact this)
        · refine g_iconst C 1 dX5_goesOn_42 (by decide) ?_
          refine g_goto C 47 dX5_goesOn_43 rfl ?_
          refine g_zast C 8 (i) (f := mv) rfl rfl (by omega) (by decide) dX5_goesOn_47 (mw q a ((m_s v), (m_held v), (m_aside v), (m_before v), (m_untried v), (m_isHeld v), (m_tape v), (m_taped v), (m_token v), (m_from v), (m_to v), (m_value v), (m_isWrong v), (upd hd i (heS (m_s v) N i)), (upd mv i (vp_nar .boolean 1)), (m_rows v), (m_rowN v), (m_sortOf v), (m_sizeOf v), (m_numbers v), (m_holdsWhat v), (m_holdsWhich v), (m_holdsMany v), (m_bodies v), (m_ran v), (m_actKind v), (m_actN v), (m_actA v), (m_isParted v))) rfl ?_
          refine g_iinc C (nI (i + 1)) [(1, .int (nI (i + 1))), (0, .ref (a 0))] dX5_goesOn_48 1 rfl (nI_add i 1) (by decide) rfl ?_
          refine g_goto C 2 dX5_goesOn_51 rfl ?_
          refine g_sub [1, 0] (lv' := [(0, .ref (a 0)), (1, .int (nI (i + 1)))]) rfl ?_
          exact ih ((i + 1)) ((upd hd i (heS (m_s v) N i))) ((upd mv i (vp_nar .boolean 1))) (by omega) (by first | assumption | omega) (by
              intro k hk
              by_cases e : k = i
              · subst e
                refine ⟨pk_us, ?_⟩
                rw [pk_us]
                first | exact (bI_t (Int32.not_lt.mp c_39)).symm | exact (bI_n (Int32.not_le.mpr c_39)).symm
              · have := hh k (by omega)
                rw [pk_un e, pk_un e]
                exact this)
  refine g_sub [1, 0] (lv' := [(0, .ref (a 0)), (1, .int 0)]) rfl ?_
  exact J_2 _ (0) ((m_heard v)) ((m_isMoved v)) (Nat.lt_succ_self _) (by first | assumption | omega) (fun k h => absurd h (Nat.not_lt_zero k))

set_option maxRecDepth 100000 in
set_option maxHeartbeats 4000000 in
theorem k_X5_goes (l : Launch) (D : va_G) (q : Nat → ClassId) (tt : Nat → Nat) (a : Nat → Nat) (v : MC) (N : Nat) (n : Nat) (hG : Gd (m_s v) N) (hn : n < 2 ^ 31) : MV l D q tt yX5_goes wsX5_goes ({ frames := 5, cells := 0, slots := 0, locals := 112 } : Room) [.ref (a 0), .int (nI n)] (mw q a v) (fun (u : (Nat → Int32) × (Nat → Int32)) => True) (fun u => (mw q a ((gosS (m_s v) N n), (m_held v), (m_aside v), (m_before v), (m_untried v), (m_isHeld v), (m_tape v), (m_taped v), (m_token v), (m_from v), (m_to v), (m_value v), (m_isWrong v), u.1, u.2, (m_rows v), (m_rowN v), (m_sortOf v), (m_sizeOf v), (m_numbers v), (m_holdsWhat v), (m_holdsWhich v), (m_holdsMany v), (m_bodies v), (m_ran v), (m_actKind v), (m_actN v), (m_actA v), (m_isParted v)))) 0 0 := by
  refine MV.of RX5 [(0, .ref (a 0)), (1, .int (nI n))] (by decide) rfl rfl (Nat.le_of_ble_eq_true rfl) rfl ?_
  intro p e s m args below meth c A C hr hnm
  refine g_iconst C 0 dX5_goes_0 (by decide) ?_
  refine g_istoren C [(2, .int 0), (0, .ref (a 0)), (1, .int (nI n))] dX5_goes_1 rfl (by decide) rfl ?_
  have J_2 : ∀ (fu : Nat) (i : Nat) (hd : Nat → Int32) (mv : Nat → Int32), n - i < fu → (i ≤ n) → G p l e ({ frames := 5, cells := 0, slots := 0, locals := 112 } : Room) s m args below meth c 3 D A (MQ below (va_Qv (fun (u : (Nat → Int32) × (Nat → Int32)) => True) (Bw D A (fun u => (mw q a ((gosS (m_s v) N n), (m_held v), (m_aside v), (m_before v), (m_untried v), (m_isHeld v), (m_tape v), (m_taped v), (m_token v), (m_from v), (m_to v), (m_value v), (m_isWrong v), u.1, u.2, (m_rows v), (m_rowN v), (m_sortOf v), (m_sizeOf v), (m_numbers v), (m_holdsWhat v), (m_holdsWhich v), (m_holdsMany v), (m_bodies v), (m_ran v), (m_actKind v), (m_actN v), (m_actA v), (m_isParted v))))) A) args s 0 0 A) 2 [(0, .ref (a 0)), (1, .int (nI n)), (2, .int (nI i))] [] (mw q a ((gosS (m_s v) N i), (m_held v), (m_aside v), (m_before v), (m_untried v), (m_isHeld v), (m_tape v), (m_taped v), (m_token v), (m_from v), (m_to v), (m_value v), (m_isWrong v), hd, mv, (m_rows v), (m_rowN v), (m_sortOf v), (m_sizeOf v), (m_numbers v), (m_holdsWhat v), (m_holdsWhich v), (m_holdsMany v), (m_bodies v), (m_ran v), (m_actKind v), (m_actN v), (m_actA v), (m_isParted v))) 0 0 := by
    intro fu
    induction fu with
    | zero =>
      intro i hd mv hfu
      exact absurd hfu (Nat.not_lt_zero _)
    | succ fu ih =>
      intro i hd mv hfu hi
      refine g_iloadn C dX5_goes_2 2 rfl rfl ?_
      refine g_iloadn C dX5_goes_3 1 rfl rfl ?_
      refine g_icmpN_ge C 17 (i) (n) dX5_goes_4 rfl (by omega) (by omega) (fun c_4 => ?_) (fun c_4 => ?_)
      · have ei : i = n := by omega
        subst ei
        exact g_vret C (hd, mv) hr dX5_goes_17 (Nat.le_of_ble_eq_true rfl) (Nat.le_of_ble_eq_true rfl) rfl (trivial)
      · refine g_aloadn C dX5_goes_7 0 rfl rfl ?_
        refine g_callAv C (rd_V C (k_X5_goesOn l D q tt a ((gosS (m_s v) N i), (m_held v), (m_aside v), (m_before v), (m_untried v), (m_isHeld v), (m_tape v), (m_taped v), (m_token v), (m_from v), (m_to v), (m_value v), (m_isWrong v), hd, mv, (m_rows v), (m_rowN v), (m_sortOf v), (m_sizeOf v), (m_numbers v), (m_holdsWhat v), (m_holdsWhich v), (m_holdsMany v), (m_bodies v), (m_ran v), (m_actKind v), (m_actN v), (m_actA v), (m_isParted v)) N (hG.gos i)) gX5_goes_X5_goesOn rfl rfl rfl 0 ok_X5_goesOn rfl 0 rfl rfl (rest := []) rfl rfl (Nat.le_of_ble_eq_true rfl) dX5_goes_8 ⟨(Nat.le_of_ble_eq_true rfl), (Nat.le_of_ble_eq_true rfl)⟩ ⟨(Nat.le_of_ble_eq_true rfl), (Nat.le_of_ble_eq_true rfl)⟩) (fun u_8 h_8 => ?_)
        refine g_wsc (mw q a ((goS (gosS (m_s v) N i) N), (m_held v), (m_aside v), (m_before v), (m_untried v), (m_isHeld v), (m_tape v), (m_taped v), (m_token v), (m_from v), (m_to v), (m_value v), (m_isWrong v), u_8.1, u_8.2, (m_rows v), (m_rowN v), (m_sortOf v), (m_sizeOf v), (m_numbers v), (m_holdsWhat v), (m_holdsWhich v), (m_holdsMany v), (m_bodies v), (m_ran v), (m_actKind v), (m_actN v), (m_actA v), (m_isParted v))) rfl ?_
        refine g_wsc (mw q a ((gosS (m_s v) N (i + 1)), (m_held v), (m_aside v), (m_before v), (m_untried v), (m_isHeld v), (m_tape v), (m_taped v), (m_token v), (m_from v), (m_to v), (m_value v), (m_isWrong v), u_8.1, u_8.2, (m_rows v), (m_rowN v), (m_sortOf v), (m_sizeOf v), (m_numbers v), (m_holdsWhat v), (m_holdsWhich v), (m_holdsMany v), (m_bodies v), (m_ran v), (m_actKind v), (m_actN v), (m_actA v), (m_isParted v))) (rfl) ?_
        refine g_iinc C (nI (i + 1)) [(2, .int (nI (i + 1))), (0, .ref (a 0)), (1, .int (nI n))] dX5_goes_11 2 rfl (nI_add i 1) (by decide) rfl ?_
        refine g_goto C 2 dX5_goes_14 rfl ?_
        refine g_sub [1, 2, 0] (lv' := [(0, .ref (a 0)), (1, .int (nI n)), (2, .int (nI (i + 1)))]) rfl ?_
        exact ih ((i + 1)) (u_8.1) (u_8.2) (by omega) (by first | assumption | omega)
  refine g_sub [1, 2, 0] (lv' := [(0, .ref (a 0)), (1, .int (nI n)), (2, .int 0)]) rfl ?_
  exact J_2 _ (0) ((m_heard v)) ((m_isMoved v)) (Nat.lt_succ_self _) (by first | assumption | omega)

