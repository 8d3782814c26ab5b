set_option maxRecDepth 100000 in
set_option maxHeartbeats 4000000 in
theorem k_X5_minds (l : Launch) (D : va_G) (q : Nat → ClassId) (tt : Nat → Nat) (a : Nat → Nat) (v : MC) (N : Nat) (x : Int32) (y : Int32) (z : Int32) (t : Int32) (hG : Gd (m_s v) N) (hT : ShG (m_sortOf v) (m_sizeOf v)) : MI l D q tt yX5_minds wsX5_minds ({ frames := 2, cells := 0, slots := 0, locals := 45 } : Room) [.ref (a 0), .int x, .int y, .int z, .int t] (mw q a v) (fun (r : Int32) (u : Nat → Int32) => r = R_minds (m_s v) (m_sortOf v) (m_sizeOf v) x y z t ∧ u = S_minds (m_s v) (m_sortOf v) (m_sizeOf v) (m_numbers v) x y z t) (fun u => (mw q a (u, (m_held v), (m_aside v), (m_before v), (m_untried v), (m_isHeld v), (m_tape v), (m_taped v), (m_token v), (m_from v), (m_to v), (m_value v), (m_isWrong v), (m_heard v), (m_isMoved v), (m_rows v), (m_rowN v), (m_sortOf v), (m_sizeOf v), (m_numbers v), (m_holdsWhat v), (m_holdsWhich v), (m_holdsMany v), (m_bodies v), (m_ran v), (m_actKind v), (m_actN v), (m_actA v), (m_isParted v)))) 0 0 := by
  refine MI.of RX5 [(0, .ref (a 0)), (1, .int x), (2, .int y), (3, .int z), (4, .int t)] (by decide) rfl rfl (Nat.le_of_ble_eq_true rfl) rfl ?_
  intro p e s m args below meth c A C hr hnm
  have w_0 : Cond.constantLong RX5 62 (8) ∈ wsX5_minds := by decide +kernel
  have w_1 : ∀ w ∈ u_ws RX5 TX5 29, w ∈ wsX5_minds := by decide +kernel
  have w_2 : Cond.fieldLink RX5 7 (TX5 0).1 (TX5 0).2.1 (TX5 0).2.2.1 ∈ wsX5_minds := by decide +kernel
  have w_3 : Cond.fieldLink RX5 41 (TX5 18).1 (TX5 18).2.1 (TX5 18).2.2.1 ∈ wsX5_minds := by decide +kernel
  have w_4 : Cond.fieldLink RX5 44 (TX5 19).1 (TX5 19).2.1 (TX5 19).2.2.1 ∈ wsX5_minds := by decide +kernel
  have h8 := hG.le
  refine g_iloadn C dX5_minds_0 1 rfl rfl ?_
  refine g_call0i C (rd_S C (k_X5_isSheet l D q tt x ) gX5_minds_X5_isSheet rfl rfl rfl 1 ok_X5_isSheet (rest := []) rfl rfl (Nat.le_of_ble_eq_true rfl) dX5_minds_1 ⟨(Nat.le_of_ble_eq_true rfl), (Nat.le_of_ble_eq_true rfl)⟩ ⟨(Nat.le_of_ble_eq_true rfl), (Nat.le_of_ble_eq_true rfl)⟩) (fun _ => rfl) (fun r_1 _ h_1 => ?_)
  obtain rfl := h_1
  refine g_ifeqE C 41 dX5_minds_4 rfl rfl (fun c_4 => ?_) (fun c_4 => ?_)
  · refine g_iconst C (-1) dX5_minds_41 (by decide) ?_
    exact g_iret C (m_s v) hr dX5_minds_42 (Nat.le_of_ble_eq_true rfl) (Nat.le_of_ble_eq_true rfl) rfl (by
        have hn_ : ¬ miG (m_s v) x y z t := fun h => c_4 h.1
        have hh_ : ¬ miH (m_s v) (m_sortOf v) (m_sizeOf v) x y z t := fun h => hn_ h.1
        unfold R_minds S_minds; rw [if_neg hn_, if_neg hh_]; exact ⟨rfl, rfl⟩)
  · refine g_aloadn C dX5_minds_7 0 rfl rfl ?_
    refine g_iloadn C dX5_minds_8 3 rfl rfl ?_
    refine g_callAi C (rd_V C (k_X5_isOne l D q tt a v z ) gX5_minds_X5_isOne rfl rfl rfl 1 ok_X5_isOne rfl 0 rfl rfl (rest := []) rfl rfl (Nat.le_of_ble_eq_true rfl) dX5_minds_9 ⟨(Nat.le_of_ble_eq_true rfl), (Nat.le_of_ble_eq_true rfl)⟩ ⟨(Nat.le_of_ble_eq_true rfl), (Nat.le_of_ble_eq_true rfl)⟩) (fun r_9 _ h_9 => ?_)
    obtain rfl := h_9
    refine g_ifeqE C 41 dX5_minds_12 rfl rfl (fun c_12 => ?_) (fun c_12 => ?_)
    · refine g_iconst C (-1) dX5_minds_41 (by decide) ?_
      exact g_iret C (m_s v) hr dX5_minds_42 (Nat.le_of_ble_eq_true rfl) (Nat.le_of_ble_eq_true rfl) rfl (by
          have hn_ : ¬ miG (m_s v) x y z t := fun h => c_12 h.2.1
          have hh_ : ¬ miH (m_s v) (m_sortOf v) (m_sizeOf v) x y z t := fun h => hn_ h.1
          unfold R_minds S_minds; rw [if_neg hn_, if_neg hh_]; exact ⟨rfl, rfl⟩)
    · refine g_iload C dX5_minds_15 4 rfl ?_
      refine g_i2l C dX5_minds_17 ?_
      refine g_lconst C 0 dX5_minds_18 (by decide) ?_
      refine g_ldc2 C (8) dX5_minds_19 w_0 ?_
      refine g_call0i C (rd_S C (k_isIn32 l D q tt (t) 0 (8) 0 (8) (by first | rfl | decide) (by first | rfl | decide)) gX5_minds_X5_isIn rfl rfl rfl 3 ok_X5_isIn (rest := []) rfl rfl (Nat.le_of_ble_eq_true rfl) dX5_minds_22 ⟨(Nat.le_of_ble_eq_true rfl), (Nat.le_of_ble_eq_true rfl)⟩ ⟨(Nat.le_of_ble_eq_true rfl), (Nat.le_of_ble_eq_true rfl)⟩) (fun _ => rfl) (fun r_22 _ h_22 => ?_)
      obtain rfl := h_22
      refine g_ifeqE C 41 dX5_minds_25 rfl rfl (fun c_25 => ?_) (fun c_25 => ?_)
      · refine g_iconst C (-1) dX5_minds_41 (by decide) ?_
        exact g_iret C (m_s v) hr dX5_minds_42 (Nat.le_of_ble_eq_true rfl) (Nat.le_of_ble_eq_true rfl) rfl (by
            have hn_ : ¬ miG (m_s v) x y z t := fun h => c_25 h.2.2.1
            have hh_ : ¬ miH (m_s v) (m_sortOf v) (m_sizeOf v) x y z t := fun h => hn_ h.1
            unfold R_minds S_minds; rw [if_neg hn_, if_neg hh_]; exact ⟨rfl, rfl⟩)
      · refine g_iloadn C dX5_minds_28 3 rfl rfl ?_
        refine g_iload C dX5_minds_29 4 rfl ?_
        refine g_iadd C dX5_minds_31 ?_
        refine g_aloadn C dX5_minds_32 0 rfl rfl ?_
        refine g_get C fx5 w_1 0 0 (v := .ref (a 1)) rfl (by decide) w_2 rfl dX5_minds_33 ?_
        refine g_iconst C 0 dX5_minds_36 (by decide) ?_
        refine g_iald C 1 (0) (f := (m_s v)) rfl rfl (by omega) (by decide) dX5_minds_37 ?_
        refine g_topci (nI N) (hG.n) ?_
        refine g_icmp_le C 43 dX5_minds_38 rfl (fun c_38 => ?_) (fun c_38 => ?_)
        · obtain ⟨j, hj, ej, ec⟩ := ix_le (n := 3) (by omega) c_4
          obtain ⟨n, hn, en⟩ := (hT j (by omega)).2
          obtain ⟨d, hd, ed, ed2⟩ := ix_one hG c_12
          obtain ⟨b, hb, eb, eb2⟩ := ix_le (n := 8) (by omega) c_25
          have hdb : d + b ≤ N := by have h_ := c_38; rw [ed, eb, nI_add] at h_; exact (nI_leI (by omega) (by omega)).mp h_
          refine g_aloadn C dX5_minds_43 0 rfl rfl ?_
          refine g_iloadn C dX5_minds_44 1 rfl rfl ?_
          refine g_topci (nI j) (ej) ?_
          refine g_iconst C 0 dX5_minds_45 (by decide) ?_
          refine g_callAi C (rd_V C (k_X5_lacks l D q tt a v j 0 (by first | assumption | omega)) gX5_minds_X5_lacks rfl rfl rfl 2 ok_X5_lacks rfl 0 rfl rfl (rest := []) rfl rfl (Nat.le_of_ble_eq_true rfl) dX5_minds_46 ⟨(Nat.le_of_ble_eq_true rfl), (Nat.le_of_ble_eq_true rfl)⟩ ⟨(Nat.le_of_ble_eq_true rfl), (Nat.le_of_ble_eq_true rfl)⟩) (fun r_46 _ h_46 => ?_)
          obtain rfl := h_46
          refine g_if_eq C 59 dX5_minds_49 rfl (fun c_49 => ?_) (fun c_49 => ?_)
          · refine g_iloadn C dX5_minds_59 2 rfl rfl ?_
            refine g_i2l C dX5_minds_60 ?_
            refine g_lconst C 0 dX5_minds_61 (by decide) ?_
            refine g_aloadn C dX5_minds_62 0 rfl rfl ?_
            refine g_get C fx5 w_1 0 18 (v := .ref (a 11)) rfl (by decide) w_3 rfl dX5_minds_63 ?_
            refine g_iloadn C dX5_minds_66 1 rfl rfl ?_
            refine g_topci (nI j) (ej) ?_
            refine g_iald C 11 (j) (f := (m_sizeOf v)) rfl rfl (by omega) (by decide) dX5_minds_67 ?_
            refine g_i2l C dX5_minds_68 ?_
            refine g_call0i C (rd_S C (k_isIn32 l D q tt (y) 0 ((m_sizeOf v) j) 0 ((((m_sizeOf v) j)).toInt64) (by first | rfl | decide) rfl) gX5_minds_X5_isIn rfl rfl rfl 3 ok_X5_isIn (rest := []) rfl rfl (Nat.le_of_ble_eq_true rfl) dX5_minds_69 ⟨(Nat.le_of_ble_eq_true rfl), (Nat.le_of_ble_eq_true rfl)⟩ ⟨(Nat.le_of_ble_eq_true rfl), (Nat.le_of_ble_eq_true rfl)⟩) (fun _ => rfl) (fun r_69 _ h_69 => ?_)
            obtain rfl := h_69
            refine g_ifeqE C 92 dX5_minds_72 rfl rfl (fun c_72 => ?_) (fun c_72 => ?_)
            · refine g_bipush C (-12) dX5_minds_92 (by decide) ?_
              exact g_iret C (m_s v) hr dX5_minds_94 (Nat.le_of_ble_eq_true rfl) (Nat.le_of_ble_eq_true rfl) rfl (by
                  have hg_ : miG (m_s v) x y z t := ⟨c_4, c_12, c_25, by rw [hG.n]; exact c_38⟩
                  have hl_ : laS (m_sortOf v) x.toNatClampNeg 0 = 0 := by rw [ec]; exact c_49
                  have hy_ : ¬ (0 ≤ y ∧ y ≤ (m_sizeOf v) x.toNatClampNeg) := by rw [ec]; exact c_72
                  have hh_ : ¬ miH (m_s v) (m_sortOf v) (m_sizeOf v) x y z t := fun h => hy_ h.2.2.1
                  unfold R_minds S_minds; rw [if_pos hg_, if_neg hh_, if_neg (Decidable.not_not.mpr hl_), if_neg (show ¬ ((0 ≤ y ∧ y ≤ (m_sizeOf v) x.toNatClampNeg) ∧ y.toNatClampNeg + t.toNatClampNeg ≤ ((m_sizeOf v) x.toNatClampNeg).toNatClampNeg) from fun h => hy_ h.1)]; exact ⟨rfl, rfl⟩)
            · have hyn : 0 ≤ y ∧ y ≤ nI n := by have h_ := c_72; rw [en] at h_; exact h_
              obtain ⟨i, hi, ei, ei2⟩ := ix_le (by omega) hyn
              refine g_iloadn C dX5_minds_75 2 rfl rfl ?_
              refine g_topci (nI i) (ei) ?_
              refine g_i2l C dX5_minds_76 ?_
              refine g_iload C dX5_minds_77 4 rfl ?_
              refine g_topci (nI b) (eb) ?_
              refine g_i2l C dX5_minds_79 ?_
              refine g_ladd C dX5_minds_80 ?_
              refine g_aloadn C dX5_minds_81 0 rfl rfl ?_
              refine g_get C fx5 w_1 0 18 (v := .ref (a 11)) rfl (by decide) w_3 rfl dX5_minds_82 ?_
              refine g_iloadn C dX5_minds_85 1 rfl rfl ?_
              refine g_topci (nI j) (ej) ?_
              refine g_iald C 11 (j) (f := (m_sizeOf v)) rfl rfl (by omega) (by decide) dX5_minds_86 ?_
              refine g_topci (nI n) (en) ?_
              refine g_i2l C dX5_minds_87 ?_
              refine g_lcmp C dX5_minds_88 ?_
              refine g_if_le C 95 dX5_minds_89 rfl (fun c_89 => ?_) (fun c_89 => ?_)
              · have hib : i + b ≤ n := mi_cm2 c_89 hi hn hb
                refine g_iconst C 0 dX5_minds_95 (by decide) ?_
                refine g_istore C [(5, .int 0), (0, .ref (a 0)), (1, .int x), (2, .int y), (3, .int z), (4, .int t)] dX5_minds_96 (by decide) rfl ?_
                have J_98 : ∀ (fu : Nat) (k : Nat), b - k < fu → (k ≤ b) → G p l e ({ frames := 2, cells := 0, slots := 0, locals := 45 } : Room) s m args below meth c 6 D A (MQ below (va_Qi (fun (r : Int32) (u : Nat → Int32) => r = R_minds (m_s v) (m_sortOf v) (m_sizeOf v) x y z t ∧ u = S_minds (m_s v) (m_sortOf v) (m_sizeOf v) (m_numbers v) x y z t) (Bw D A (fun u => (mw q a (u, (m_held v), (m_aside v), (m_before v), (m_untried v), (m_isHeld v), (m_tape v), (m_taped v), (m_token v), (m_from v), (m_to v), (m_value v), (m_isWrong v), (m_heard v), (m_isMoved v), (m_rows v), (m_rowN v), (m_sortOf v), (m_sizeOf v), (m_numbers v), (m_holdsWhat v), (m_holdsWhich v), (m_holdsMany v), (m_bodies v), (m_ran v), (m_actKind v), (m_actN v), (m_actA v), (m_isParted v))))) A) args s 0 0 A) 98 [(0, .ref (a 0)), (1, .int x), (2, .int y), (3, .int z), (4, .int t), (5, .int (nI k))] [] (mw q a ((miL (m_s v) (fun k => (m_numbers v) (40 * j + k)) d i k), (m_held v), (m_aside v), (m_before v), (m_untried v), (m_isHeld v), (m_tape v), (m_taped v), (m_token v), (m_from v), (m_to v), (m_value v), (m_isWrong v), (m_heard v), (m_isMoved v), (m_rows v), (m_rowN v), (m_sortOf v), (m_sizeOf v), (m_numbers v), (m_holdsWhat v), (m_holdsWhich v), (m_holdsMany v), (m_bodies v), (m_ran v), (m_actKind v), (m_actN v), (m_actA v), (m_isParted v))) 0 0 := by
                  intro fu
                  induction fu with
                  | zero =>
                    intro k hfu
                    exact absurd hfu (Nat.not_lt_zero _)
                  | succ fu ih =>
                    intro k hfu hk
                    refine g_iload C dX5_minds_98 5 rfl ?_
                    refine g_iload C dX5_minds_100 4 rfl ?_
                    refine g_topci (nI b) (eb) ?_
                    refine g_icmpN_ge C 144 (k) (b) dX5_minds_102 rfl (by omega) (by omega) (fun c_102 => ?_) (fun c_102 => ?_)
                    · refine g_iload C dX5_minds_144 4 rfl ?_
                      exact g_iret C (miL (m_s v) (fun k => (m_numbers v) (40 * j + k)) d i k) hr dX5_minds_146 (Nat.le_of_ble_eq_true rfl) (Nat.le_of_ble_eq_true rfl) rfl (by
                          have hg_ : miG (m_s v) x y z t := ⟨c_4, c_12, c_25, by rw [hG.n]; exact c_38⟩
                          have hl_ : laS (m_sortOf v) x.toNatClampNeg 0 = 0 := by rw [ec]; exact c_49
                          have hx_ : y.toNatClampNeg + t.toNatClampNeg ≤ ((m_sizeOf v) x.toNatClampNeg).toNatClampNeg := by rw [ei2, eb2, ec, en, nI_clamp (by omega)]; omega
                          have hy_ : (0 ≤ y ∧ y ≤ (m_sizeOf v) x.toNatClampNeg) := by rw [ec, en]; exact hyn
                          have hh_ : miH (m_s v) (m_sortOf v) (m_sizeOf v) x y z t := ⟨hg_, hl_, hy_, hx_⟩
                          unfold R_minds S_minds; rw [if_pos hg_, if_pos hh_, if_neg (Decidable.not_not.mpr hl_), if_pos (show (0 ≤ y ∧ y ≤ (m_sizeOf v) x.toNatClampNeg) ∧ y.toNatClampNeg + t.toNatClampNeg ≤ ((m_sizeOf v) x.toNatClampNeg).toNatClampNeg from ⟨hy_, hx_⟩), ec, ed2, ei2, eb2, show k = b by omega]; exact ⟨by first | rfl | exact eb.symm | exact eb, rfl⟩)
                    · refine g_aloadn C dX5_minds_105 0 rfl rfl ?_
                      refine g_get C fx5 w_1 0 0 (v := .ref (a 1)) rfl (by decide) w_2 rfl dX5_minds_106 ?_
                      refine g_bipush C 7 dX5_minds_109 (by decide) ?_
                      refine g_iconst C 5 dX5_minds_111 (by decide) ?_
                      refine g_iloadn C dX5_minds_112 3 rfl rfl ?_
                      refine g_topci (nI d) (ed) ?_
                      refine g_iload C dX5_minds_113 5 rfl ?_
                      refine g_iadd C dX5_minds_115 ?_
                      refine g_imul C dX5_minds_116 ?_
                      refine g_iadd C dX5_minds_117 ?_
                      refine g_iconst C 1 dX5_minds_118 (by decide) ?_
                      refine g_iadd C dX5_minds_119 ?_
                      refine g_aloadn C dX5_minds_120 0 rfl rfl ?_
                      refine g_get C fx5 w_1 0 19 (v := .ref (a 12)) rfl (by decide) w_4 rfl dX5_minds_121 ?_
                      refine g_bipush C 40 dX5_minds_124 (by decide) ?_
                      refine g_iloadn C dX5_minds_126 1 rfl rfl ?_
                      refine g_topci (nI j) (ej) ?_
                      refine g_imul C dX5_minds_127 ?_
                      refine g_iloadn C dX5_minds_128 2 rfl rfl ?_
                      refine g_topci (nI i) (ei) ?_
                      refine g_iadd C dX5_minds_129 ?_
                      refine g_iload C dX5_minds_130 5 rfl ?_
                      refine g_iadd C dX5_minds_132 ?_
                      refine g_iald C 12 ((((40 * j) + i) + k)) (f := (m_numbers v)) rfl (ix_add (ix_add (ix_mul rfl rfl) rfl) rfl) (by omega) (by decide) dX5_minds_133 ?_
                      refine g_call0i C (rd_S C (k_X5_within l D q tt ((m_numbers v) (((40 * j) + i) + k)) ) gX5_minds_X5_within rfl rfl rfl 1 ok_X5_within (rest := [.int ((7 + (5 * ((nI d) + (nI k)))) + 1), .ref (a 1)]) rfl rfl (Nat.le_of_ble_eq_true rfl) dX5_minds_134 ⟨(Nat.le_of_ble_eq_true rfl), (Nat.le_of_ble_eq_true rfl)⟩ ⟨(Nat.le_of_ble_eq_true rfl), (Nat.le_of_ble_eq_true rfl)⟩) (fun _ => rfl) (fun r_134 _ h_134 => ?_)
                      obtain rfl := h_134
                      refine g_iast C 1 (((7 + (5 * (d + k))) + 1)) (f := (miL (m_s v) (fun k => (m_numbers v) (40 * j + k)) d i k)) rfl (ix_add (ix_add rfl (ix_mul rfl (ix_add rfl rfl))) rfl) (by omega) (by decide) dX5_minds_137 (mw q a ((upd (miL (m_s v) (fun k => (m_numbers v) (40 * j + k)) d i k) ((7 + (5 * (d + k))) + 1) (wiS ((m_numbers v) (((40 * j) + i) + k)))), (m_held v), (m_aside v), (m_before v), (m_untried v), (m_isHeld v), (m_tape v), (m_taped v), (m_token v), (m_from v), (m_to v), (m_value v), (m_isWrong v), (m_heard v), (m_isMoved v), (m_rows v), (m_rowN v), (m_sortOf v), (m_sizeOf v), (m_numbers v), (m_holdsWhat v), (m_holdsWhich v), (m_holdsMany v), (m_bodies v), (m_ran v), (m_actKind v), (m_actN v), (m_actA v), (m_isParted v))) rfl ?_
                      refine g_wsc (mw q a ((miL (m_s v) (fun k => (m_numbers v) (40 * j + k)) d i (k + 1)), (m_held v), (m_aside v), (m_before v), (m_untried v), (m_isHeld v), (m_tape v), (m_taped v), (m_token v), (m_from v), (m_to v), (m_value v), (m_isWrong v), (m_heard v), (m_isMoved v), (m_rows v), (m_rowN v), (m_sortOf v), (m_sizeOf v), (m_numbers v), (m_holdsWhat v), (m_holdsWhich v), (m_holdsMany v), (m_bodies v), (m_ran v), (m_actKind v), (m_actN v), (m_actA v), (m_isParted v))) (by rw [miL, Nat.add_assoc (40 * j) i k]) ?_
                      refine g_iinc C (nI (k + 1)) [(5, .int (nI (k + 1))), (0, .ref (a 0)), (1, .int x), (2, .int y), (3, .int z), (4, .int t)] dX5_minds_138 5 rfl (nI_add k 1) (by decide) rfl ?_
                      refine g_goto C 98 dX5_minds_141 rfl ?_
                      refine g_sub [1, 2, 3, 4, 5, 0] (lv' := [(0, .ref (a 0)), (1, .int x), (2, .int y), (3, .int z), (4, .int t), (5, .int (nI (k + 1)))]) rfl ?_
                      exact ih ((k + 1)) (by omega) (by first | assumption | omega)
                refine g_wsc (mw q a ((miL (m_s v) (fun k => (m_numbers v) (40 * j + k)) d i 0), (m_held v), (m_aside v), (m_before v), (m_untried v), (m_isHeld v), (m_tape v), (m_taped v), (m_token v), (m_from v), (m_to v), (m_value v), (m_isWrong v), (m_heard v), (m_isMoved v), (m_rows v), (m_rowN v), (m_sortOf v), (m_sizeOf v), (m_numbers v), (m_holdsWhat v), (m_holdsWhich v), (m_holdsMany v), (m_bodies v), (m_ran v), (m_actKind v), (m_actN v), (m_actA v), (m_isParted v))) (by rw [miL]) ?_
                refine g_sub [1, 2, 3, 4, 5, 0] (lv' := [(0, .ref (a 0)), (1, .int x), (2, .int y), (3, .int z), (4, .int t), (5, .int 0)]) rfl ?_
                exact J_98 _ (0) (Nat.lt_succ_self _) (by first | assumption | omega)
              · have hib : ¬ i + b ≤ n := fun h => c_89 (mi_cm h hi hn hb)
                refine g_bipush C (-12) dX5_minds_92 (by decide) ?_
                exact g_iret C (m_s v) hr dX5_minds_94 (Nat.le_of_ble_eq_true rfl) (Nat.le_of_ble_eq_true rfl) rfl (by
                    have hg_ : miG (m_s v) x y z t := ⟨c_4, c_12, c_25, by rw [hG.n]; exact c_38⟩
                    have hl_ : laS (m_sortOf v) x.toNatClampNeg 0 = 0 := by rw [ec]; exact c_49
                    have hx_ : ¬ y.toNatClampNeg + t.toNatClampNeg ≤ ((m_sizeOf v) x.toNatClampNeg).toNatClampNeg := by rw [ei2, eb2, ec, en, nI_clamp (by omega)]; omega
                    have hh_ : ¬ miH (m_s v) (m_sortOf v) (m_sizeOf v) x y z t := fun h => hx_ h.2.2.2
                    unfold R_minds S_minds; rw [if_pos hg_, if_neg hh_, if_neg (Decidable.not_not.mpr hl_), if_neg (show ¬ ((0 ≤ y ∧ y ≤ (m_sizeOf v) x.toNatClampNeg) ∧ y.toNatClampNeg + t.toNatClampNeg ≤ ((m_sizeOf v) x.toNatClampNeg).toNatClampNeg) from fun h => hx_ h.2)]; exact ⟨rfl, rfl⟩)
          · refine g_aloadn C dX5_minds_52 0 rfl rfl ?_
            refine g_iloadn C dX5_minds_53 1 rfl rfl ?_
            refine g_topci (nI j) (ej) ?_
            refine g_iconst C 0 dX5_minds_54 (by decide) ?_
            refine g_callAi C (rd_V C (k_X5_lacks l D q tt a v j 0 (by first | assumption | omega)) gX5_minds_X5_lacks rfl rfl rfl 2 ok_X5_lacks rfl 0 rfl rfl (rest := []) rfl rfl (Nat.le_of_ble_eq_true rfl) dX5_minds_55 ⟨(Nat.le_of_ble_eq_true rfl), (Nat.le_of_ble_eq_true rfl)⟩ ⟨(Nat.le_of_ble_eq_true rfl), (Nat.le_of_ble_eq_true rfl)⟩) (fun r_55 _ h_55 => ?_)
            obtain rfl := h_55
            exact g_iret C (m_s v) hr dX5_minds_58 (Nat.le_of_ble_eq_true rfl) (Nat.le_of_ble_eq_true rfl) rfl (by
                have hg_ : miG (m_s v) x y z t := ⟨c_4, c_12, c_25, by rw [hG.n]; exact c_38⟩
                have hl_ : ¬ laS (m_sortOf v) x.toNatClampNeg 0 = 0 := by rw [ec]; exact c_49
                have hh_ : ¬ miH (m_s v) (m_sortOf v) (m_sizeOf v) x y z t := fun h => hl_ h.2.1
                unfold R_minds S_minds; rw [if_pos hg_, if_neg hh_, if_pos hl_, ec]; exact ⟨rfl, rfl⟩)
        · refine g_iconst C (-1) dX5_minds_41 (by decide) ?_
          exact g_iret C (m_s v) hr dX5_minds_42 (Nat.le_of_ble_eq_true rfl) (Nat.le_of_ble_eq_true rfl) rfl (by
              have hn_ : ¬ miG (m_s v) x y z t := fun h => c_38 (by have h2_ := h.2.2.2; rw [hG.n] at h2_; exact h2_)
              have hh_ : ¬ miH (m_s v) (m_sortOf v) (m_sizeOf v) x y z t := fun h => hn_ h.1
              unfold R_minds S_minds; rw [if_neg hn_, if_neg hh_]; exact ⟨rfl, rfl⟩)

