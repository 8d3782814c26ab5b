set_option maxRecDepth 100000 in
set_option maxHeartbeats 4000000 in
theorem k_X5_minds (l : Launch) (D : va_G) (q : Nat → ClassId) (tt : Nat → Nat) (a : Nat → Nat) (v : MC) (N : Nat) (x : Int32) (y : Int32) (z : Int32) (t : Int32) (hG : Gd (m_s v) N) (hT : ShG (m_sortOf v) (m_sizeOf v)) : MI l D q tt yX5_minds wsX5_minds ({ frames := 2, cells := 0, slots := 0, locals := 45 } : Room) [.ref (a 0), .int x, .int y, .int z, .int t] (mw q a v) (fun (r : Int32) (u : Nat → Int32) => r = R_minds (m_s v) (m_sortOf v) (m_sizeOf v) x y z t ∧ u = S_minds (m_s v) (m_sortOf v) (m_sizeOf v) (m_numbers v) x y z t) (fun u => (mw q a (u, (m_held v), (m_aside v), (m_before v), (m_untried v), (m_isHeld v), (m_tape v), (m_taped v), (m_token v), (m_from v), (m_to v), (m_value v), (m_isWrong v), (m_heard v), (m_isMoved v), (m_rows v), (m_rowN v), (m_sortOf v), (m_sizeOf v), (m_numbers v), (m_holdsWhat v), (m_holdsWhich v), (m_holdsMany v), (m_bodies v), (m_ran v), (m_actKind v), (m_actN v), (m_actA v), (m_isParted v)))) 0 0 := by
  refine MI.of RX5 [(0, .ref (a 0)), (1, .int x), (2, .int y), (3, .int z), (4, .int t)] (by decide) rfl rfl (Nat.le_of_ble_eq_true rfl) rfl ?_
  intro p e s m args below meth c A C hr hnm
  have w_0 : Cond.constantLong RX5 62 (8) ∈ wsX5_minds := by decide +kernel
  have w_1 : ∀ w ∈ u_ws RX5 TX5 29, w ∈ wsX5_minds := by decide +kernel
  have w_2 : Cond.fieldLink RX5 7 (TX5 0).1 (TX5 0).2.1 (TX5 0).2.2.1 ∈ wsX5_minds := by decide +kernel
  have w_3 : Cond.fieldLink RX5 41 (TX5 18).1 (TX5 18).2.1 (TX5 18).2.2.1 ∈ wsX5_minds := by decide +kernel
  have w_4 : Cond.fieldLink RX5 44 (TX5 19).1 (TX5 19).2.1 (TX5 19).2.2.1 ∈ wsX5_minds := by decide +kernel
  have h8 := hG.le
  refine g_iloadn C dX5_minds_0 1 rfl rfl ?_
  refine g_call0i C (rd_S C (k_X5_isSheet l D q tt x ) gX5_minds_X5_isSheet rfl rfl rfl 1 ok_X5_isSheet (rest := []) rfl rfl (Nat.le_of_ble_eq_true rfl) dX5_minds_1 ⟨(Nat.le_of_ble_eq_true rfl), (Nat.le_of_ble_eq_true rfl)⟩ ⟨(Nat.le_of_ble_eq_true rfl), (Nat.le_of_ble_eq_true rfl)⟩) (fun _ => rfl) (fun r_1 _ h_1 => ?_)
  obtain rfl := h_1
  refine g_ifeqE C 41 dX5_minds_4 rfl rfl (fun c_4 => ?_) (fun c_4 => ?_)
  · refine g_iconst C (-1) dX5_minds_41 (by decide) ?_
    exact g_iret C (m_s v) hr dX5_minds_42 (Nat.le_of_ble_eq_true rfl) (Nat.le_of_ble_eq_true rfl) rfl (by have hn_ : ¬ miG (m_s v) x y z t := fun h => c_4 h.1; unfold R_minds S_minds; rw [if_neg hn_, if_neg (fun h => hn_ h.1)]; exact ⟨rfl, rfl⟩)
  · refine g_aloadn C dX5_minds_7 0 rfl rfl ?_
    refine g_iloadn C dX5_minds_8 3 rfl rfl ?_
    refine g_callAi C (rd_V C (k_X5_isOne l D q tt a v z ) gX5_minds_X5_isOne rfl rfl rfl 1 ok_X5_isOne rfl 0 rfl rfl (rest := []) rfl rfl (Nat.le_of_ble_eq_true rfl) dX5_minds_9 ⟨(Nat.le_of_ble_eq_true rfl), (Nat.le_of_ble_eq_true rfl)⟩ ⟨(Nat.le_of_ble_eq_true rfl), (Nat.le_of_ble_eq_true rfl)⟩) (fun r_9 _ h_9 => ?_)
    obtain rfl := h_9
    refine g_ifeqE C 41 dX5_minds_12 rfl rfl (fun c_12 => ?_) (fun c_12 => ?_)
    · refine g_iconst C (-1) dX5_minds_41 (by decide) ?_
      exact g_iret C (m_s v) hr dX5_minds_42 (Nat.le_of_ble_eq_true rfl) (Nat.le_of_ble_eq_true rfl) rfl (by have hn_ : ¬ miG (m_s v) x y z t := fun h => c_12 h.2.1; unfold R_minds S_minds; rw [if_neg hn_, if_neg (fun h => hn_ h.1)]; exact ⟨rfl, rfl⟩)
    · refine g_iload C dX5_minds_15 4 rfl ?_
      refine g_i2l C dX5_minds_17 ?_
      refine g_lconst C 0 dX5_minds_18 (by decide) ?_
      refine g_ldc2 C (8) dX5_minds_19 w_0 ?_
      refine g_call0i C (rd_S C (k_isIn32 l D q tt (t) 0 (8) 0 (8) (by first | rfl | decide) (by first | rfl | decide)) gX5_minds_X5_isIn rfl rfl rfl 3 ok_X5_isIn (rest := []) rfl rfl (Nat.le_of_ble_eq_true rfl) dX5_minds_22 ⟨(Nat.le_of_ble_eq_true rfl), (Nat.le_of_ble_eq_true rfl)⟩ ⟨(Nat.le_of_ble_eq_true rfl), (Nat.le_of_ble_eq_true rfl)⟩) (fun _ => rfl) (fun r_22 _ h_22 => ?_)
      obtain rfl := h_22
      refine g_ifeqE C 41 dX5_minds_25 rfl rfl (fun c_25 => ?_) (fun c_25 => ?_)
      · refine g_iconst C (-1) dX5_minds_41 (by decide) ?_
        exact g_iret C (m_s v) hr dX5_minds_42 (Nat.le_of_ble_eq_true rfl) (Nat.le_of_ble_eq_true rfl) rfl (by have hn_ : ¬ miG (m_s v) x y z t := fun h => c_25 h.2.2.1; unfold R_minds S_minds; rw [if_neg hn_, if_neg (fun h => hn_ h.1)]; exact ⟨rfl, rfl⟩)
      · refine g_iloadn C dX5_minds_28 3 rfl rfl ?_
        refine g_iload C dX5_minds_29 4 rfl ?_
        refine g_iadd C dX5_minds_31 ?_
        refine g_aloadn C dX5_minds_32 0 rfl rfl ?_
        refine g_get C fx5 w_1 0 0 (v := .ref (a 1)) rfl (by decide) w_2 rfl dX5_minds_33 ?_
        refine g_iconst C 0 dX5_minds_36 (by decide) ?_
        refine g_iald C 1 (0) (f := (m_s v)) rfl rfl (by omega) (by decide) dX5_minds_37 ?_
        refine g_topci (nI N) (hG.n) ?_
        refine g_icmp_le C 43 dX5_minds_38 rfl (fun c_38 => ?_) (fun c_38 => ?_)
        · obtain ⟨j, hj, ej, ec⟩ := ix_le (n := 3) (by omega) c_4
          obtain ⟨n, hn, en⟩ := (hT j (by omega)).2
          obtain ⟨d, hd, ed, ed2⟩ := ix_one hG c_12
          obtain ⟨b, hb, eb, eb2⟩ := ix_le (n := 8) (by omega) c_25
          have hdb : d + b ≤ N := by have h_ := c_38; rw [ed, eb, hG.n, nI_add] at h_; exact (nI_leI (by omega) (by omega)).mp h_
          refine g_aloadn C dX5_minds_43 0 rfl rfl ?_
          refine g_iloadn C dX5_minds_44 1 rfl rfl ?_
          refine g_topci (nI j) (ej) ?_
          refine g_iconst C 0 dX5_minds_45 (by decide) ?_
          refine g_callAi C (rd_V C (k_X5_lacks l D q tt a v j 0 (by first | assumption | omega)) gX5_minds_X5_lacks rfl rfl rfl 2 ok_X5_lacks rfl 0 rfl rfl (rest := []) rfl rfl (Nat.le_of_ble_eq_true rfl) dX5_minds_46 ⟨(Nat.le_of_ble_eq_true rfl), (Nat.le_of_ble_eq_true rfl)⟩ ⟨(Nat.le_of_ble_eq_true rfl), (Nat.le_of_ble_eq_true rfl)⟩) (fun r_46 _ h_46 => ?_)
          obtain rfl := h_46
          refine g_if_eq C 59 dX5_minds_49 rfl (fun c_49 => ?_) (fun c_49 => ?_)
          · refine g_iloadn C dX5_minds_59 2 rfl rfl ?_
            refine g_i2l C dX5_minds_60 ?_
            refine g_lconst C 0 dX5_minds_61 (by decide) ?_
            refine g_aloadn C dX5_minds_62 0 rfl rfl ?_
            refine g_get C fx5 w_1 0 18 (v := .ref (a 11)) rfl (by decide) w_3 rfl dX5_minds_63 ?_
            refine g_iloadn C dX5_minds_66 1 rfl rfl ?_
            refine g_topci (nI j) (ej) ?_
            refine g_iald C 11 (j) (f := (m_sizeOf v)) rfl rfl (by omega) (by decide) dX5_minds_67 ?_
            refine g_i2l C dX5_minds_68 ?_
            refine g_call0i C (rd_S C (k_isIn32 l D q tt (y) 0 ((m_sizeOf v) j) 0 ((((m_sizeOf v) j)).toInt64) (by first | rfl | decide) rfl) gX5_minds_X5_isIn rfl rfl rfl 3 ok_X5_isIn (rest := []) rfl rfl (Nat.le_of_ble_eq_true rfl) dX5_minds_69 ⟨(Nat.le_of_ble_eq_true rfl), (Nat.le_of_ble_eq_true rfl)⟩ ⟨(Nat.le_of_ble_eq_true rfl), (Nat.le_of_ble_eq_true rfl)⟩) (fun _ => rfl) (fun r_69 _ h_69 => ?_)
            obtain rfl := h_69
            refine g_ifeqE C 92 dX5_minds_72 rfl rfl (fun c_72 => ?_) (fun c_72 => ?_)
            · refine g_bipush C (-12) dX5_minds_92 (by decide) ?_
              exact g_iret C (m_s v) hr dX5_minds_94 (Nat.le_of_ble_eq_true rfl) (Nat.le_of_ble_eq_true rfl) rfl (by have hg_ : miG (m_s v) x y z t := ⟨c_4, c_12, c_25, c_38⟩; unfold R_minds S_minds; have hl_ : laS (m_sortOf v) x.toNatClampNeg 0 = 0 := by rw [ec]; exact c_49
                  rw [if_pos hg_, if_neg (fun h => c_72 (by have := h.2.2.1; rw [ec] at this; exact this)), if_neg (Decidable.not_not.mpr hl_), if_neg (fun h => c_72 (by have := h.1; rw [ec] at this; exact this))]; exact ⟨rfl, rfl⟩)
            · have hyn : 0 ≤ y ∧ y ≤ nI n := by have h_ := c_72; rw [en] at h_; exact h_
              obtain ⟨i, hi, ei, ei2⟩ := ix_le (by omega) hyn
              refine g_iloadn C dX5_minds_75 2 rfl rfl ?_
              refine g_topci (nI i) (ei) ?_
              refine g_i2l C dX5_minds_76 ?_
              refine g_iload C dX5_minds_77 4 rfl ?_
              refine g_topci (nI b) (eb) ?_
              refine g_i2l C dX5_minds_79 ?_
              refine g_ladd C dX5_minds_80 ?_
              refine g_aloadn C dX5_minds_81 0 rfl rfl ?_
              refine g_get C fx5 w_1 0 18 (v := .ref (a 11)) rfl (by decide) w_3 rfl dX5_minds_82 ?_
              refine g_iloadn C dX5_minds_85 1 rfl rfl ?_
              refine g_topci (nI j) (ej) ?_
              refine g_iald C 11 (j) (f := (m_sizeOf v)) rfl rfl (by omega) (by decide) dX5_minds_86 ?_
              refine g_topci (nI n) (en) ?_
              refine g_i2l C dX5_minds_87 ?_
              refine g_lcmp C dX5_minds_88 ?_
              refine g_if_le C 95 dX5_minds_89 rfl (fun c_89 => ?_) (fun c_89 => ?_)
              · have hib : i + b ≤ n := mi_cm2 c_89 hi hn hb
                refine g_iconst C 0 dX5_minds_95 (by decide) ?_
                refine g_istore C [(5, .int 0), (0, .ref (a 0)), (1, .int x), (2, .int y), (3, .int z), (4, .int t)] dX5_minds_96 (by decide) rfl ?_
                have J_98 : ∀ (fu : Nat) (k : Nat), b - k < fu → (k ≤ b) → G p l e ({ frames := 2, cells := 0, slots := 0, locals := 45 } : Room) s m args below meth c 6 D A (MQ below (va_Qi (fun (r : Int32) (u : Nat → Int32) => r = R_minds (m_s v) (m_sortOf v) (m_sizeOf v) x y z t ∧ u = S_minds (m_s v) (m_sortOf v) (m_sizeOf v) (m_numbers v) x y z t) (Bw D A (fun u => (mw q a (u, (m_held v), (m_aside v), (m_before v), (m_untried v), (m_isHeld v), (m_tape v), (m_taped v), (m_token v), (m_from v), (m_to v), (m_value v), (m_isWrong v), (m_heard v), (m_isMoved v), (m_rows v), (m_rowN v), (m_sortOf v), (m_sizeOf v), (m_numbers v), (m_holdsWhat v), (m_holdsWhich v), (m_holdsMany v), (m_bodies v), (m_ran v), (m_actKind v), (m_actN v), (m_actA v), (m_isParted v))))) A) args s 0 0 A) 98 [(0, .ref (a 0)), (1, .int x), (2, .int y), (3, .int z), (4, .int t), (5, .int (nI k))] [] (mw q a ((miL (m_s v) (fun k => (m_numbers v) (40 * j + k)) d i k), (m_held v), (m_aside v), (m_before v), (m_untried v), (m_isHeld v), (m_tape v), (m_taped v), (m_token v), (m_from v), (m_to v), (m_value v), (m_isWrong v), (m_heard v), (m_isMoved v), (m_rows v), (m_rowN v), (m_sortOf v), (m_sizeOf v), (m_numbers v), (m_holdsWhat v), (m_holdsWhich v), (m_holdsMany v), (m_bodies v), (m_ran v), (m_actKind v), (m_actN v), (m_actA v), (m_isParted v))) 0 0 := by
                  intro fu
                  induction fu with
                  | zero =>
                    intro k hfu
                    exact absurd hfu (Nat.not_lt_zero _)
                  | succ fu ih =>
                    intro k hfu hk
                    refine g_iload C dX5_minds_98 5 rfl ?_
                    refine g_iload C dX5_minds_100 4 rfl ?_
                    refine g_topci (nI b) (eb) ?_
                    refine g_icmpN_ge C 144 (k) (b) dX5_minds_102 rfl (by omega) (by omega) (fun c_102 => ?_) (fun c_102 => ?_)
                    · refine g_iload C dX5_minds_144 4 rfl ?_
                      exact g_iret C (miL (m_s v) (fun k => (m_numbers v) (40 * j + k)) d i k) hr dX5_minds_146 (Nat.le_of_ble_eq_true rfl) (Nat.le_of_ble_eq_true rfl) rfl (by have hg_ : miG (m_s v) x y z t := ⟨c_4, c_12, c_25, c_38⟩; unfold R_minds S_minds; have hl_ : laS (m_sortOf v) x.toNatClampNeg 0 = 0 := by rw [ec]; exact c_49
                          have hx_ : y.toNatClampNeg + t.toNatClampNeg ≤ ((m_sizeOf v) x.toNatClampNeg).toNatClampNeg := by rw [ei2, eb2, ec, en, nI_clamp (by omega)]; omega
                          have hy_ : 0 ≤ y ∧ y ≤ (m_sizeOf v) x.toNatClampNeg := by rw [ec]; exact c_72
                          rw [if_pos hg_, if_pos ⟨hg_, hl_, hy_, hx_⟩, if_neg (Decidable.not_not.mpr hl_), if_pos ⟨hy_, hx_⟩, ec, ed2, ei2, eb2, show k = b by omega]; exact ⟨eb.symm, rfl⟩)
                    · refine g_aloadn C dX5_minds_105 0 rfl rfl ?_
                      refine g_get C fx5 w_1 0 0 (v := .ref (a 1)) rfl (by decide) w_2 rfl dX5_minds_106 ?_
                      refine g_bipush C 7 dX5_minds_109 (by decide) ?_
                      refine g_iconst C 5 dX5_minds_111 (by decide) ?_
                      refine g_iloadn C dX5_minds_112 3 rfl rfl ?_
                      refine g_topci (nI d) (ed) ?_
                      refine g_iload C dX5_minds_113 5 rfl ?_
                      refine g_iadd C dX5_minds_115 ?_
                      refine g_imul C dX5_minds_116 ?_
                      refine g_iadd C dX5_minds_117 ?_
                      refine g_iconst C 1 dX5_minds_118 (by decide) ?_
                      refine g_iadd C dX5_minds_119 ?_
                      refine g_aloadn C dX5_minds_120 0 rfl rfl ?_
                      refine g_get C fx5 w_1 0 19 (v := .ref (a 12)) rfl (by decide) w_4 rfl dX5_minds_121 ?_
                      refine g_bipush C 40 dX5_minds_124 (by decide) ?_
                      refine g_iloadn C dX5_minds_126 1 rfl rfl ?_
                      refine g_topci (nI j) (ej) ?_
                      refine g_imul C dX5_minds_127 ?_
                      refine g_iloadn C dX5_minds_128 2 rfl rfl ?_
                      refine g_topci (nI i) (ei) ?_
                      refine g_iadd C dX5_minds_129 ?_
                      refine g_iload C dX5_minds_130 5 rfl ?_
                      refine g_iadd C dX5_minds_132 ?_
                      refine g_iald C 12 ((((40 * j) + i) + k)) (f := (m_numbers v)) rfl (ix_add (ix_add (ix_mul rfl rfl) rfl) rfl) (by omega) (by decide) dX5_minds_133 ?_
                      refine g_call0i C (rd_S C (k_X5_within l D q tt ((m_numbers v) (((40 * j) + i) + k)) ) gX5_minds_X5_within rfl rfl rfl 1 ok_X5_within (rest := [.int ((7 + (5 * ((nI d) + (nI k)))) + 1), .ref (a 1)]) rfl rfl (Nat.le_of_ble_eq_true rfl) dX5_minds_134 ⟨(Nat.le_of_ble_eq_true rfl), (Nat.le_of_ble_eq_true rfl)⟩ ⟨(Nat.le_of_ble_eq_true rfl), (Nat.le_of_ble_eq_true rfl)⟩) (fun _ => rfl) (fun r_134 _ h_134 => ?_)
                      obtain rfl := h_134
                      refine g_iast C 1 (((7 + (5 * (d + k))) + 1)) (f := (miL (m_s v) (fun k => (m_numbers v) (40 * j + k)) d i k)) rfl (ix_add (ix_add rfl (ix_mul rfl (ix_add rfl rfl))) rfl) (by omega) (by decide) dX5_minds_137 (mw q a ((upd (miL (m_s v) (fun k => (m_numbers v) (40 * j + k)) d i k) ((7 + (5 * (d + k))) + 1) (wiS ((m_numbers v) (((40 * j) + i) + k)))), (m_held v), (m_aside v), (m_before v), (m_untried v), (m_isHeld v), (m_tape v), (m_taped v), (m_token v), (m_from v), (m_to v), (m_value v), (m_isWrong v), (m_heard v), (m_isMoved v), (m_rows v), (m_rowN v), (m_sortOf v), (m_sizeOf v), (m_numbers v), (m_holdsWhat v), (m_holdsWhich v), (m_holdsMany v), (m_bodies v), (m_ran v), (m_actKind v), (m_actN v), (m_actA v), (m_isParted v))) rfl ?_
                      refine g_wsc (mw q a ((miL (m_s v) (fun k => (m_numbers v) (40 * j + k)) d i (k + 1)), (m_held v), (m_aside v), (m_before v), (m_untried v), (m_isHeld v), (m_tape v), (m_taped v), (m_token v), (m_from v), (m_to v), (m_value v), (m_isWrong v), (m_heard v), (m_isMoved v), (m_rows v), (m_rowN v), (m_sortOf v), (m_sizeOf v), (m_numbers v), (m_holdsWhat v), (m_holdsWhich v), (m_holdsMany v), (m_bodies v), (m_ran v), (m_actKind v), (m_actN v), (m_actA v), (m_isParted v))) (by rw [miL, Nat.add_assoc (40 * j) i k]) ?_
                      refine g_iinc C (nI (k + 1)) [(5, .int (nI (k + 1))), (0, .ref (a 0)), (1, .int x), (2, .int y), (3, .int z), (4, .int t)] dX5_minds_138 5 rfl (nI_add k 1) (by decide) rfl ?_
                      refine g_goto C 98 dX5_minds_141 rfl ?_
                      refine g_sub [1, 2, 3, 4, 5, 0] (lv' := [(0, .ref (a 0)), (1, .int x), (2, .int y), (3, .int z), (4, .int t), (5, .int (nI (k + 1)))]) rfl ?_
                      exact ih ((k + 1)) (by omega) (by first | assumption | omega)
                refine g_wsc (mw q a ((miL (m_s v) (fun k => (m_numbers v) (40 * j + k)) d i 0), (m_held v), (m_aside v), (m_before v), (m_untried v), (m_isHeld v), (m_tape v), (m_taped v), (m_token v), (m_from v), (m_to v), (m_value v), (m_isWrong v), (m_heard v), (m_isMoved v), (m_rows v), (m_rowN v), (m_sortOf v), (m_sizeOf v), (m_numbers v), (m_holdsWhat v), (m_holdsWhich v), (m_holdsMany v), (m_bodies v), (m_ran v), (m_actKind v), (m_actN v), (m_actA v), (m_isParted v))) (rfl) ?_
                refine g_sub [1, 2, 3, 4, 5, 0] (lv' := [(0, .ref (a 0)), (1, .int x), (2, .int y), (3, .int z), (4, .int t), (5, .int 0)]) rfl ?_
                exact J_98 _ (0) (Nat.lt_succ_self _) (by first | assumption | omega)
              · have hib : ¬ i + b ≤ n := fun h => c_89 (mi_cm h hi hn hb)
                refine g_bipush C (-12) dX5_minds_92 (by decide) ?_
                exact g_iret C (m_s v) hr dX5_minds_94 (Nat.le_of_ble_eq_true rfl) (Nat.le_of_ble_eq_true rfl) rfl (by have hg_ : miG (m_s v) x y z t := ⟨c_4, c_12, c_25, c_38⟩; unfold R_minds S_minds; have hl_ : laS (m_sortOf v) x.toNatClampNeg 0 = 0 := by rw [ec]; exact c_49
                    have hx_ : ¬ y.toNatClampNeg + t.toNatClampNeg ≤ ((m_sizeOf v) x.toNatClampNeg).toNatClampNeg := by rw [ei2, eb2, ec, en, nI_clamp (by omega)]; omega
                    rw [if_pos hg_, if_neg (fun h => hx_ h.2.2.2), if_neg (Decidable.not_not.mpr hl_), if_neg (fun h => hx_ h.2)]; exact ⟨rfl, rfl⟩)
          · refine g_aloadn C dX5_minds_52 0 rfl rfl ?_
            refine g_iloadn C dX5_minds_53 1 rfl rfl ?_
            refine g_topci (nI j) (ej) ?_
            refine g_iconst C 0 dX5_minds_54 (by decide) ?_
            refine g_callAi C (rd_V C (k_X5_lacks l D q tt a v j 0 (by first | assumption | omega)) gX5_minds_X5_lacks rfl rfl rfl 2 ok_X5_lacks rfl 0 rfl rfl (rest := []) rfl rfl (Nat.le_of_ble_eq_true rfl) dX5_minds_55 ⟨(Nat.le_of_ble_eq_true rfl), (Nat.le_of_ble_eq_true rfl)⟩ ⟨(Nat.le_of_ble_eq_true rfl), (Nat.le_of_ble_eq_true rfl)⟩) (fun r_55 _ h_55 => ?_)
            obtain rfl := h_55
            exact g_iret C (m_s v) hr dX5_minds_58 (Nat.le_of_ble_eq_true rfl) (Nat.le_of_ble_eq_true rfl) rfl (by have hg_ : miG (m_s v) x y z t := ⟨c_4, c_12, c_25, c_38⟩; unfold R_minds S_minds; rw [if_pos hg_, if_neg (fun h => c_49 (by have := h.2.1; rw [ec] at this; exact this)), ec, if_pos c_49]; exact ⟨rfl, rfl⟩)
        · refine g_iconst C (-1) dX5_minds_41 (by decide) ?_
          exact g_iret C (m_s v) hr dX5_minds_42 (Nat.le_of_ble_eq_true rfl) (Nat.le_of_ble_eq_true rfl) rfl (by have hn_ : ¬ miG (m_s v) x y z t := fun h => c_38 h.2.2.2; unfold R_minds S_minds; rw [if_neg hn_, if_neg (fun h => hn_ h.1)]; exact ⟨rfl, rfl⟩)

set_option maxRecDepth 100000 in
set_option maxHeartbeats 4000000 in
theorem k_X5_isTold (l : Launch) (D : va_G) (q : Nat → ClassId) (tt : Nat → Nat) (a : Nat → Nat) (v : MC) (N : Nat) (j : Nat) (n : Nat) (hG : Gd (m_s v) N) (hj : j < 4) (hn : n ≤ 40) (en : (m_sizeOf v) j = nI n) : MI l D q tt yX5_isTold wsX5_isTold ({ frames := 5, cells := 0, slots := 0, locals := 112 } : Room) [.ref (a 0), .int (nI j)] (mw q a v) (fun (r : Int32) (u : (Nat → Int32) × (Nat → Int32) × (Nat → Int32)) => r = (bI (tdS (m_s v) (fun k => (m_numbers v) (40 * j + k)) N n))) (fun u => (mw q a ((m_s v), (m_held v), u.1, (m_before v), (m_untried v), (m_isHeld v), (m_tape v), (m_taped v), (m_token v), (m_from v), (m_to v), (m_value v), (m_isWrong v), u.2.1, u.2.2, (m_rows v), (m_rowN v), (m_sortOf v), (m_sizeOf v), (m_numbers v), (m_holdsWhat v), (m_holdsWhich v), (m_holdsMany v), (m_bodies v), (m_ran v), (m_actKind v), (m_actN v), (m_actA v), (m_isParted v)))) 0 0 := by
  refine MI.of RX5 [(0, .ref (a 0)), (1, .int (nI j))] (by decide) rfl rfl (Nat.le_of_ble_eq_true rfl) rfl ?_
  intro p e s m args below meth c A C hr hnm
  have w_0 : ∀ w ∈ u_ws RX5 TX5 29, w ∈ wsX5_isTold := by decide +kernel
  have w_1 : Cond.fieldLink RX5 7 (TX5 0).1 (TX5 0).2.1 (TX5 0).2.2.1 ∈ wsX5_isTold := by decide +kernel
  have w_2 : Cond.fieldLink RX5 16 (TX5 2).1 (TX5 2).2.1 (TX5 2).2.2.1 ∈ wsX5_isTold := by decide +kernel
  have w_3 : Cond.fieldLink RX5 41 (TX5 18).1 (TX5 18).2.1 (TX5 18).2.2.1 ∈ wsX5_isTold := by decide +kernel
  have w_4 : Cond.fieldLink RX5 44 (TX5 19).1 (TX5 19).2.1 (TX5 19).2.2.1 ∈ wsX5_isTold := by decide +kernel
  have h8 := hG.le
  refine g_aloadn C dX5_isTold_0 0 rfl rfl ?_
  refine g_get C fx5 w_0 0 0 (v := .ref (a 1)) rfl (by decide) w_1 rfl dX5_isTold_1 ?_
  refine g_aloadn C dX5_isTold_4 0 rfl rfl ?_
  refine g_get C fx5 w_0 0 2 (v := .ref (a 3)) rfl (by decide) w_2 rfl dX5_isTold_5 ?_
  refine g_callWv (w1 := (mw q a v)) (wr := ([0, 2, 4, 5, 6, 7, 8, 9, 10, 11, 12, 13, 14, 15, 16] : List Nat).filterMap (fun i => (mw q a v)[i]?)) (isC := [1, 3]) (isR := [0, 2, 4, 5, 6, 7, 8, 9, 10, 11, 12, 13, 14, 15, 16]) (pm := [0, 15, 1, 16, 2, 3, 4, 5, 6, 7, 8, 9, 10, 11, 12, 13, 14]) (w1' := (fun _ => (mw q a ((m_s v), (m_held v), (cp47 (m_s v) (m_aside v)), (m_before v), (m_untried v), (m_isHeld v), (m_tape v), (m_taped v), (m_token v), (m_from v), (m_to v), (m_value v), (m_isWrong v), (m_heard v), (m_isMoved v), (m_rows v), (m_rowN v), (m_sortOf v), (m_sizeOf v), (m_numbers v), (m_holdsWhat v), (m_holdsWhich v), (m_holdsMany v), (m_bodies v), (m_ran v), (m_actKind v), (m_actN v), (m_actA v), (m_isParted v))))) C (rd_S C (k_X5_copyRow l D q tt (a 1) (a 3) (m_s v) (m_aside v) ) gX5_isTold_X5_copyRow rfl rfl rfl 2 ok_X5_copyRow (rest := []) rfl rfl (Nat.le_of_ble_eq_true rfl) dX5_isTold_8 ⟨(Nat.le_of_ble_eq_true rfl), (Nat.le_of_ble_eq_true rfl)⟩ ⟨(Nat.le_of_ble_eq_true rfl), (Nat.le_of_ble_eq_true rfl)⟩) rfl rfl rfl (fun _ => rfl) rfl (fun _ h_8 => ?_)
  refine g_iconst C 1 dX5_isTold_11 (by decide) ?_
  refine g_istoren C [(2, .int 1), (0, .ref (a 0)), (1, .int (nI j))] dX5_isTold_12 rfl (by decide) rfl ?_
  refine g_iconst C 0 dX5_isTold_13 (by decide) ?_
  refine g_istoren C [(3, .int 0), (2, .int 1), (0, .ref (a 0)), (1, .int (nI j))] dX5_isTold_14 rfl (by decide) rfl ?_
  have J_15 : ∀ (fu : Nat) (i : Nat) (is_ : Int32) (hd : Nat → Int32) (mv : Nat → Int32), n - i < fu → (i ≤ n) → ((is_ = 1 ∧ tdS (m_s v) (fun k => (m_numbers v) (40 * j + k)) N i) ∨ (is_ = 0 ∧ ¬ tdS (m_s v) (fun k => (m_numbers v) (40 * j + k)) N n)) → G p l e ({ frames := 5, cells := 0, slots := 0, locals := 112 } : Room) s m args below meth c 4 D A (MQ below (va_Qi (fun (r : Int32) (u : (Nat → Int32) × (Nat → Int32) × (Nat → Int32)) => r = (bI (tdS (m_s v) (fun k => (m_numbers v) (40 * j + k)) N n))) (Bw D A (fun u => (mw q a ((m_s v), (m_held v), u.1, (m_before v), (m_untried v), (m_isHeld v), (m_tape v), (m_taped v), (m_token v), (m_from v), (m_to v), (m_value v), (m_isWrong v), u.2.1, u.2.2, (m_rows v), (m_rowN v), (m_sortOf v), (m_sizeOf v), (m_numbers v), (m_holdsWhat v), (m_holdsWhich v), (m_holdsMany v), (m_bodies v), (m_ran v), (m_actKind v), (m_actN v), (m_actA v), (m_isParted v))))) A) args s 0 0 A) 15 [(0, .ref (a 0)), (1, .int (nI j)), (2, .int is_), (3, .int (nI i))] [] (mw q a ((gosS (m_s v) N i), (m_held v), (cp47 (m_s v) (m_aside v)), (m_before v), (m_untried v), (m_isHeld v), (m_tape v), (m_taped v), (m_token v), (m_from v), (m_to v), (m_value v), (m_isWrong v), hd, mv, (m_rows v), (m_rowN v), (m_sortOf v), (m_sizeOf v), (m_numbers v), (m_holdsWhat v), (m_holdsWhich v), (m_holdsMany v), (m_bodies v), (m_ran v), (m_actKind v), (m_actN v), (m_actA v), (m_isParted v))) 0 0 := by
    intro fu
    induction fu with
    | zero =>
      intro i is_ hd mv hfu
      exact absurd hfu (Nat.not_lt_zero _)
    | succ fu ih =>
      intro i is_ hd mv hfu hi hs
      refine g_iloadn C dX5_isTold_15 3 rfl rfl ?_
      refine g_aloadn C dX5_isTold_16 0 rfl rfl ?_
      refine g_get C fx5 w_0 0 18 (v := .ref (a 11)) rfl (by decide) w_3 rfl dX5_isTold_17 ?_
      refine g_iloadn C dX5_isTold_20 1 rfl rfl ?_
      refine g_iald C 11 (j) (f := (m_sizeOf v)) rfl rfl (by omega) (by decide) dX5_isTold_21 ?_
      refine g_topci (nI n) (en) ?_
      refine g_icmpN_ge C 81 (i) (n) dX5_isTold_22 rfl (by omega) (by omega) (fun c_22 => ?_) (fun c_22 => ?_)
      · refine g_aloadn C dX5_isTold_81 0 rfl rfl ?_
        refine g_get C fx5 w_0 0 2 (v := .ref (a 3)) rfl (by decide) w_2 rfl dX5_isTold_82 ?_
        refine g_aloadn C dX5_isTold_85 0 rfl rfl ?_
        refine g_get C fx5 w_0 0 0 (v := .ref (a 1)) rfl (by decide) w_1 rfl dX5_isTold_86 ?_
        refine g_callWv (w1 := (mw q a ((gosS (m_s v) N i), (m_held v), (cp47 (m_s v) (m_aside v)), (m_before v), (m_untried v), (m_isHeld v), (m_tape v), (m_taped v), (m_token v), (m_from v), (m_to v), (m_value v), (m_isWrong v), hd, mv, (m_rows v), (m_rowN v), (m_sortOf v), (m_sizeOf v), (m_numbers v), (m_holdsWhat v), (m_holdsWhich v), (m_holdsMany v), (m_bodies v), (m_ran v), (m_actKind v), (m_actN v), (m_actA v), (m_isParted v)))) (wr := ([0, 2, 4, 5, 6, 7, 8, 9, 10, 11, 12, 13, 14, 15, 16] : List Nat).filterMap (fun ix_ => (mw q a ((gosS (m_s v) N i), (m_held v), (cp47 (m_s v) (m_aside v)), (m_before v), (m_untried v), (m_isHeld v), (m_tape v), (m_taped v), (m_token v), (m_from v), (m_to v), (m_value v), (m_isWrong v), hd, mv, (m_rows v), (m_rowN v), (m_sortOf v), (m_sizeOf v), (m_numbers v), (m_holdsWhat v), (m_holdsWhich v), (m_holdsMany v), (m_bodies v), (m_ran v), (m_actKind v), (m_actN v), (m_actA v), (m_isParted v)))[ix_]?)) (isC := [3, 1]) (isR := [0, 2, 4, 5, 6, 7, 8, 9, 10, 11, 12, 13, 14, 15, 16]) (pm := [0, 16, 1, 15, 2, 3, 4, 5, 6, 7, 8, 9, 10, 11, 12, 13, 14]) (w1' := (fun _ => (mw q a ((cp47 (cp47 (m_s v) (m_aside v)) (gosS (m_s v) N i)), (m_held v), (cp47 (m_s v) (m_aside v)), (m_before v), (m_untried v), (m_isHeld v), (m_tape v), (m_taped v), (m_token v), (m_from v), (m_to v), (m_value v), (m_isWrong v), hd, mv, (m_rows v), (m_rowN v), (m_sortOf v), (m_sizeOf v), (m_numbers v), (m_holdsWhat v), (m_holdsWhich v), (m_holdsMany v), (m_bodies v), (m_ran v), (m_actKind v), (m_actN v), (m_actA v), (m_isParted v))))) C (rd_S C (k_X5_copyRow l D q tt (a 3) (a 1) (cp47 (m_s v) (m_aside v)) (gosS (m_s v) N i) ) gX5_isTold_X5_copyRow rfl rfl rfl 2 ok_X5_copyRow (rest := []) rfl rfl (Nat.le_of_ble_eq_true rfl) dX5_isTold_89 ⟨(Nat.le_of_ble_eq_true rfl), (Nat.le_of_ble_eq_true rfl)⟩ ⟨(Nat.le_of_ble_eq_true rfl), (Nat.le_of_ble_eq_true rfl)⟩) rfl rfl rfl (fun _ => rfl) rfl (fun _ h_89 => ?_)
        refine g_wsc (mw q a ((m_s v), (m_held v), (cp47 (m_s v) (m_aside v)), (m_before v), (m_untried v), (m_isHeld v), (m_tape v), (m_taped v), (m_token v), (m_from v), (m_to v), (m_value v), (m_isWrong v), hd, mv, (m_rows v), (m_rowN v), (m_sortOf v), (m_sizeOf v), (m_numbers v), (m_holdsWhat v), (m_holdsWhich v), (m_holdsMany v), (m_bodies v), (m_ran v), (m_actKind v), (m_actN v), (m_actA v), (m_isParted v))) (by first | (rw [cp_back (fun k hk => gos_hi hG hk i)]; done) | (rw [cp_back (fun k hk => gos_hi hG hk i)]; rfl)) ?_
        refine g_iloadn C dX5_isTold_92 2 rfl rfl ?_
        exact g_zret C ((cp47 (m_s v) (m_aside v)), hd, mv) hr (by first | exact bI_z | (rcases hs with ⟨h1_, h2_⟩ | ⟨h1_, h2_⟩ <;> rw [h1_] <;> rfl)) dX5_isTold_93 (Nat.le_of_ble_eq_true rfl) (Nat.le_of_ble_eq_true rfl) rfl (by rcases hs with ⟨h1_, h2_⟩ | ⟨h1_, h2_⟩
            · first | (rw [h1_] at c_26; exact absurd c_26 (by decide)) | (rw [h1_, show i = n by omega] at *; rw [bI_t h2_])
            · rw [h1_, bI_n h2_])
      · refine g_iloadn C dX5_isTold_25 2 rfl rfl ?_
        refine g_if_eq C 81 dX5_isTold_26 rfl (fun c_26 => ?_) (fun c_26 => ?_)
        · refine g_aloadn C dX5_isTold_81 0 rfl rfl ?_
          refine g_get C fx5 w_0 0 2 (v := .ref (a 3)) rfl (by decide) w_2 rfl dX5_isTold_82 ?_
          refine g_aloadn C dX5_isTold_85 0 rfl rfl ?_
          refine g_get C fx5 w_0 0 0 (v := .ref (a 1)) rfl (by decide) w_1 rfl dX5_isTold_86 ?_
          refine g_callWv (w1 := (mw q a ((gosS (m_s v) N i), (m_held v), (cp47 (m_s v) (m_aside v)), (m_before v), (m_untried v), (m_isHeld v), (m_tape v), (m_taped v), (m_token v), (m_from v), (m_to v), (m_value v), (m_isWrong v), hd, mv, (m_rows v), (m_rowN v), (m_sortOf v), (m_sizeOf v), (m_numbers v), (m_holdsWhat v), (m_holdsWhich v), (m_holdsMany v), (m_bodies v), (m_ran v), (m_actKind v), (m_actN v), (m_actA v), (m_isParted v)))) (wr := ([0, 2, 4, 5, 6, 7, 8, 9, 10, 11, 12, 13, 14, 15, 16] : List Nat).filterMap (fun ix_ => (mw q a ((gosS (m_s v) N i), (m_held v), (cp47 (m_s v) (m_aside v)), (m_before v), (m_untried v), (m_isHeld v), (m_tape v), (m_taped v), (m_token v), (m_from v), (m_to v), (m_value v), (m_isWrong v), hd, mv, (m_rows v), (m_rowN v), (m_sortOf v), (m_sizeOf v), (m_numbers v), (m_holdsWhat v), (m_holdsWhich v), (m_holdsMany v), (m_bodies v), (m_ran v), (m_actKind v), (m_actN v), (m_actA v), (m_isParted v)))[ix_]?)) (isC := [3, 1]) (isR := [0, 2, 4, 5, 6, 7, 8, 9, 10, 11, 12, 13, 14, 15, 16]) (pm := [0, 16, 1, 15, 2, 3, 4, 5, 6, 7, 8, 9, 10, 11, 12, 13, 14]) (w1' := (fun _ => (mw q a ((cp47 (cp47 (m_s v) (m_aside v)) (gosS (m_s v) N i)), (m_held v), (cp47 (m_s v) (m_aside v)), (m_before v), (m_untried v), (m_isHeld v), (m_tape v), (m_taped v), (m_token v), (m_from v), (m_to v), (m_value v), (m_isWrong v), hd, mv, (m_rows v), (m_rowN v), (m_sortOf v), (m_sizeOf v), (m_numbers v), (m_holdsWhat v), (m_holdsWhich v), (m_holdsMany v), (m_bodies v), (m_ran v), (m_actKind v), (m_actN v), (m_actA v), (m_isParted v))))) C (rd_S C (k_X5_copyRow l D q tt (a 3) (a 1) (cp47 (m_s v) (m_aside v)) (gosS (m_s v) N i) ) gX5_isTold_X5_copyRow rfl rfl rfl 2 ok_X5_copyRow (rest := []) rfl rfl (Nat.le_of_ble_eq_true rfl) dX5_isTold_89 ⟨(Nat.le_of_ble_eq_true rfl), (Nat.le_of_ble_eq_true rfl)⟩ ⟨(Nat.le_of_ble_eq_true rfl), (Nat.le_of_ble_eq_true rfl)⟩) rfl rfl rfl (fun _ => rfl) rfl (fun _ h_89 => ?_)
          refine g_wsc (mw q a ((m_s v), (m_held v), (cp47 (m_s v) (m_aside v)), (m_before v), (m_untried v), (m_isHeld v), (m_tape v), (m_taped v), (m_token v), (m_from v), (m_to v), (m_value v), (m_isWrong v), hd, mv, (m_rows v), (m_rowN v), (m_sortOf v), (m_sizeOf v), (m_numbers v), (m_holdsWhat v), (m_holdsWhich v), (m_holdsMany v), (m_bodies v), (m_ran v), (m_actKind v), (m_actN v), (m_actA v), (m_isParted v))) (by first | (rw [cp_back (fun k hk => gos_hi hG hk i)]; done) | (rw [cp_back (fun k hk => gos_hi hG hk i)]; rfl)) ?_
          refine g_iloadn C dX5_isTold_92 2 rfl rfl ?_
          exact g_zret C ((cp47 (m_s v) (m_aside v)), hd, mv) hr (by first | exact bI_z | (rcases hs with ⟨h1_, h2_⟩ | ⟨h1_, h2_⟩ <;> rw [h1_] <;> rfl)) dX5_isTold_93 (Nat.le_of_ble_eq_true rfl) (Nat.le_of_ble_eq_true rfl) rfl (by rcases hs with ⟨h1_, h2_⟩ | ⟨h1_, h2_⟩
              · first | (rw [h1_] at c_26; exact absurd c_26 (by decide)) | (rw [h1_, show i = n by omega] at *; rw [bI_t h2_])
              · rw [h1_, bI_n h2_])
        · have ht_ : tdS (m_s v) (fun k => (m_numbers v) (40 * j + k)) N i := by rcases hs with h_ | h_; exact h_.2; exact absurd h_.1 c_26
          refine g_aloadn C dX5_isTold_29 0 rfl rfl ?_
          refine g_callAv C (rd_V C (k_X5_goesOn l D q tt a ((gosS (m_s v) N i), (m_held v), (cp47 (m_s v) (m_aside v)), (m_before v), (m_untried v), (m_isHeld v), (m_tape v), (m_taped v), (m_token v), (m_from v), (m_to v), (m_value v), (m_isWrong v), hd, mv, (m_rows v), (m_rowN v), (m_sortOf v), (m_sizeOf v), (m_numbers v), (m_holdsWhat v), (m_holdsWhich v), (m_holdsMany v), (m_bodies v), (m_ran v), (m_actKind v), (m_actN v), (m_actA v), (m_isParted v)) N (hG.gos i)) gX5_isTold_X5_goesOn rfl rfl rfl 0 ok_X5_goesOn rfl 0 rfl rfl (rest := []) rfl rfl (Nat.le_of_ble_eq_true rfl) dX5_isTold_30 ⟨(Nat.le_of_ble_eq_true rfl), (Nat.le_of_ble_eq_true rfl)⟩ ⟨(Nat.le_of_ble_eq_true rfl), (Nat.le_of_ble_eq_true rfl)⟩) (fun u_30 h_30 => ?_)
          refine g_wsc (mw q a ((goS (gosS (m_s v) N i) N), (m_held v), (cp47 (m_s v) (m_aside v)), (m_before v), (m_untried v), (m_isHeld v), (m_tape v), (m_taped v), (m_token v), (m_from v), (m_to v), (m_value v), (m_isWrong v), u_30.1, u_30.2, (m_rows v), (m_rowN v), (m_sortOf v), (m_sizeOf v), (m_numbers v), (m_holdsWhat v), (m_holdsWhich v), (m_holdsMany v), (m_bodies v), (m_ran v), (m_actKind v), (m_actN v), (m_actA v), (m_isParted v))) rfl ?_
          refine g_wsc (mw q a ((gosS (m_s v) N (i + 1)), (m_held v), (cp47 (m_s v) (m_aside v)), (m_before v), (m_untried v), (m_isHeld v), (m_tape v), (m_taped v), (m_token v), (m_from v), (m_to v), (m_value v), (m_isWrong v), u_30.1, u_30.2, (m_rows v), (m_rowN v), (m_sortOf v), (m_sizeOf v), (m_numbers v), (m_holdsWhat v), (m_holdsWhich v), (m_holdsMany v), (m_bodies v), (m_ran v), (m_actKind v), (m_actN v), (m_actA v), (m_isParted v))) (rfl) ?_
          refine g_aloadn C dX5_isTold_33 0 rfl rfl ?_
          refine g_get C fx5 w_0 0 19 (v := .ref (a 12)) rfl (by decide) w_4 rfl dX5_isTold_34 ?_
          refine g_bipush C 40 dX5_isTold_37 (by decide) ?_
          refine g_iloadn C dX5_isTold_39 1 rfl rfl ?_
          refine g_imul C dX5_isTold_40 ?_
          refine g_iloadn C dX5_isTold_41 3 rfl rfl ?_
          refine g_iadd C dX5_isTold_42 ?_
          refine g_iald C 12 (((40 * j) + i)) (f := (m_numbers v)) rfl (ix_add (ix_mul rfl rfl) rfl) (by omega) (by decide) dX5_isTold_43 ?_
          refine g_iconst C (-1) dX5_isTold_44 (by decide) ?_
          refine g_icmp_eq C 69 dX5_isTold_45 rfl (fun c_45 => ?_) (fun c_45 => ?_)
          · refine g_iconst C 1 dX5_isTold_69 (by decide) ?_
            refine g_goto C 74 dX5_isTold_70 rfl ?_
            refine g_istoren C [(2, .int 1), (0, .ref (a 0)), (1, .int (nI j)), (3, .int (nI i))] dX5_isTold_74 rfl (by decide) rfl ?_
            refine g_iinc C (nI (i + 1)) [(3, .int (nI (i + 1))), (2, .int 1), (0, .ref (a 0)), (1, .int (nI j))] dX5_isTold_75 3 rfl (nI_add i 1) (by decide) rfl ?_
            refine g_goto C 15 dX5_isTold_78 rfl ?_
            refine g_sub [2, 3, 1, 0] (lv' := [(0, .ref (a 0)), (1, .int (nI j)), (2, .int 1), (3, .int (nI (i + 1)))]) rfl ?_
            exact ih ((i + 1)) (1) (u_30.1) (u_30.2) (by omega) (by first | assumption | omega) (by first | exact Or.inl ⟨rfl, td_next ht_ (Or.inl c_44)⟩ | exact Or.inl ⟨rfl, td_next ht_ (Or.inr (Decidable.not_not.mp c_66))⟩ | exact Or.inl ⟨rfl, td_next ht_ (Or.inr c_66)⟩ | exact Or.inr ⟨rfl, fun h => by rcases h i (by omega) with h_ | h_; exact c_44 h_; exact c_66 h_⟩)
          · refine g_aloadn C dX5_isTold_48 0 rfl rfl ?_
            refine g_get C fx5 w_0 0 19 (v := .ref (a 12)) rfl (by decide) w_4 rfl dX5_isTold_49 ?_
            refine g_bipush C 40 dX5_isTold_52 (by decide) ?_
            refine g_iloadn C dX5_isTold_54 1 rfl rfl ?_
            refine g_imul C dX5_isTold_55 ?_
            refine g_iloadn C dX5_isTold_56 3 rfl rfl ?_
            refine g_iadd C dX5_isTold_57 ?_
            refine g_iald C 12 (((40 * j) + i)) (f := (m_numbers v)) rfl (ix_add (ix_mul rfl rfl) rfl) (by omega) (by decide) dX5_isTold_58 ?_
            refine g_aloadn C dX5_isTold_59 0 rfl rfl ?_
            refine g_callAi C (rd_V C (k_X5_clappers l D q tt a ((gosS (m_s v) N (i + 1)), (m_held v), (cp47 (m_s v) (m_aside v)), (m_before v), (m_untried v), (m_isHeld v), (m_tape v), (m_taped v), (m_token v), (m_from v), (m_to v), (m_value v), (m_isWrong v), u_30.1, u_30.2, (m_rows v), (m_rowN v), (m_sortOf v), (m_sizeOf v), (m_numbers v), (m_holdsWhat v), (m_holdsWhich v), (m_holdsMany v), (m_bodies v), (m_ran v), (m_actKind v), (m_actN v), (m_actA v), (m_isParted v)) N (hG.gos (i + 1))) gX5_isTold_X5_clappers rfl rfl rfl 0 ok_X5_clappers rfl 0 rfl rfl (rest := [.int ((m_numbers v) ((40 * j) + i))]) rfl rfl (Nat.le_of_ble_eq_true rfl) dX5_isTold_60 ⟨(Nat.le_of_ble_eq_true rfl), (Nat.le_of_ble_eq_true rfl)⟩ ⟨(Nat.le_of_ble_eq_true rfl), (Nat.le_of_ble_eq_true rfl)⟩) (fun r_60 _ h_60 => ?_)
            obtain rfl := h_60
            refine g_topci (clS (gosS (m_s v) N (i + 1)) N) rfl ?_
            refine g_call0i C (rd_S C (k_X5_size l D q tt (clN (gosS (m_s v) N (i + 1)) N) (clN_256 h8)) gX5_isTold_X5_size rfl rfl rfl 1 ok_X5_size (rest := [.int ((m_numbers v) ((40 * j) + i))]) rfl rfl (Nat.le_of_ble_eq_true rfl) dX5_isTold_63 ⟨(Nat.le_of_ble_eq_true rfl), (Nat.le_of_ble_eq_true rfl)⟩ ⟨(Nat.le_of_ble_eq_true rfl), (Nat.le_of_ble_eq_true rfl)⟩) (fun _ => rfl) (fun r_63 _ h_63 => ?_)
            obtain rfl := h_63
            refine g_icmp_ne C 73 dX5_isTold_66 rfl (fun c_66 => ?_) (fun c_66 => ?_)
            · refine g_iconst C 0 dX5_isTold_73 (by decide) ?_
              refine g_istoren C [(2, .int 0), (0, .ref (a 0)), (1, .int (nI j)), (3, .int (nI i))] dX5_isTold_74 rfl (by decide) rfl ?_
              refine g_iinc C (nI (i + 1)) [(3, .int (nI (i + 1))), (2, .int 0), (0, .ref (a 0)), (1, .int (nI j))] dX5_isTold_75 3 rfl (nI_add i 1) (by decide) rfl ?_
              refine g_goto C 15 dX5_isTold_78 rfl ?_
              refine g_sub [2, 3, 1, 0] (lv' := [(0, .ref (a 0)), (1, .int (nI j)), (2, .int 0), (3, .int (nI (i + 1)))]) rfl ?_
              exact ih ((i + 1)) (0) (u_30.1) (u_30.2) (by omega) (by first | assumption | omega) (by first | exact Or.inl ⟨rfl, td_next ht_ (Or.inl c_44)⟩ | exact Or.inl ⟨rfl, td_next ht_ (Or.inr (Decidable.not_not.mp c_66))⟩ | exact Or.inl ⟨rfl, td_next ht_ (Or.inr c_66)⟩ | exact Or.inr ⟨rfl, fun h => by rcases h i (by omega) with h_ | h_; exact c_44 h_; exact c_66 h_⟩)
            · refine g_iconst C 1 dX5_isTold_69 (by decide) ?_
              refine g_goto C 74 dX5_isTold_70 rfl ?_
              refine g_istoren C [(2, .int 1), (0, .ref (a 0)), (1, .int (nI j)), (3, .int (nI i))] dX5_isTold_74 rfl (by decide) rfl ?_
              refine g_iinc C (nI (i + 1)) [(3, .int (nI (i + 1))), (2, .int 1), (0, .ref (a 0)), (1, .int (nI j))] dX5_isTold_75 3 rfl (nI_add i 1) (by decide) rfl ?_
              refine g_goto C 15 dX5_isTold_78 rfl ?_
              refine g_sub [2, 3, 1, 0] (lv' := [(0, .ref (a 0)), (1, .int (nI j)), (2, .int 1), (3, .int (nI (i + 1)))]) rfl ?_
              exact ih ((i + 1)) (1) (u_30.1) (u_30.2) (by omega) (by first | assumption | omega) (by first | exact Or.inl ⟨rfl, td_next ht_ (Or.inl c_44)⟩ | exact Or.inl ⟨rfl, td_next ht_ (Or.inr (Decidable.not_not.mp c_66))⟩ | exact Or.inl ⟨rfl, td_next ht_ (Or.inr c_66)⟩ | exact Or.inr ⟨rfl, fun h => by rcases h i (by omega) with h_ | h_; exact c_44 h_; exact c_66 h_⟩)
  refine g_sub [2, 3, 1, 0] (lv' := [(0, .ref (a 0)), (1, .int (nI j)), (2, .int 1), (3, .int 0)]) rfl ?_
  exact J_15 _ (0) (1) ((m_heard v)) ((m_isMoved v)) (Nat.lt_succ_self _) (by first | assumption | omega) (Or.inl ⟨rfl, fun k h => absurd h (Nat.not_lt_zero k)⟩)

