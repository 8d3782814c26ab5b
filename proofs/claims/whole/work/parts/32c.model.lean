set_option maxRecDepth 100000 in
set_option maxHeartbeats 4000000 in
theorem k_X5_act (l : Launch) (D : va_G) (q : Nat → ClassId) (tt : Nat → Nat) (a : Nat → Nat) (v : MC) (N : Nat) (x : Int32) (y : Int32) (z : Int32) (hG : Gd (m_s v) N) : MI l D q tt yX5_act wsX5_act ({ frames := 8, cells := 0, slots := 0, locals := 170 } : Room) [.ref (a 0), .int x, .int y, .int z] (mw q a v) (fun (r : Int32) (u : (Nat → Int32) × Int32 × Int32 × Int32 × Int32 × Int32) => r = R_act (m_s v) (ppS (m_holdsWhat v) (m_holdsWhich v)) (m_bodies v) x y z ∧ u.1 = B_act (m_s v) (ppS (m_holdsWhat v) (m_holdsWhich v)) (m_bodies v) x y z ∧ u.2.1 = nI (C_act (m_s v) (ppS (m_holdsWhat v) (m_holdsWhich v)) (m_bodies v) x y z)) (fun u => (mw q a ((m_s v), (m_held v), (m_aside v), (m_before v), (m_untried v), (m_isHeld v), (m_tape v), (m_taped v), (m_token v), (m_from v), (m_to v), (m_value v), (m_isWrong v), (m_heard v), (m_isMoved v), (m_rows v), (m_rowN v), (m_sortOf v), (m_sizeOf v), (m_numbers v), (m_holdsWhat v), (m_holdsWhich v), (m_holdsMany v), u.1, u.2.1, u.2.2.2.1, u.2.2.2.2.1, u.2.2.2.2.2, u.2.2.1))) 0 0 := by
  refine MI.of RX5 [(0, .ref (a 0)), (1, .int x), (2, .int y), (3, .int z)] (by decide) rfl rfl (Nat.le_of_ble_eq_true rfl) rfl ?_
  intro p e s m args below meth c A C hr hnm
  have w_0 : ∀ w ∈ u_ws RX5 TX5 29, w ∈ wsX5_act := by decide +kernel
  have w_1 : Cond.fieldLink RX5 289 (TX5 24).1 (TX5 24).2.1 (TX5 24).2.2.1 ∈ wsX5_act := by decide +kernel
  have w_2 : Cond.constantLong RX5 152 (3) ∈ wsX5_act := by decide +kernel
  have w_3 : Cond.fieldLink RX5 316 (TX5 28).1 (TX5 28).2.1 (TX5 28).2.2.1 ∈ wsX5_act := by decide +kernel
  have w_4 : Cond.fieldLink RX5 50 (TX5 21).1 (TX5 21).2.1 (TX5 21).2.2.1 ∈ wsX5_act := by decide +kernel
  have w_5 : Cond.fieldLink RX5 301 (TX5 25).1 (TX5 25).2.1 (TX5 25).2.2.1 ∈ wsX5_act := by decide +kernel
  have w_6 : Cond.fieldLink RX5 295 (TX5 26).1 (TX5 26).2.1 (TX5 26).2.2.1 ∈ wsX5_act := by decide +kernel
  have w_7 : Cond.fieldLink RX5 310 (TX5 27).1 (TX5 27).2.1 (TX5 27).2.2.1 ∈ wsX5_act := by decide +kernel
  have h8 := hG.le
  refine g_aloadn C dX5_act_0 0 rfl rfl ?_
  refine g_iconst C 0 dX5_act_1 (by decide) ?_
  refine g_put C fx5 w_0 0 24 rfl (by decide) w_1 rfl rfl rfl (Nat.le_of_ble_eq_true rfl) dX5_act_2 (mw q a ((m_s v), (m_held v), (m_aside v), (m_before v), (m_untried v), (m_isHeld v), (m_tape v), (m_taped v), (m_token v), (m_from v), (m_to v), (m_value v), (m_isWrong v), (m_heard v), (m_isMoved v), (m_rows v), (m_rowN v), (m_sortOf v), (m_sizeOf v), (m_numbers v), (m_holdsWhat v), (m_holdsWhich v), (m_holdsMany v), (m_bodies v), 0, (m_actKind v), (m_actN v), (m_actA v), (m_isParted v))) (by dsimp only [mw, List.set, m_s, m_held, m_aside, m_before, m_untried, m_isHeld, m_tape, m_taped, m_token, m_from, m_to, m_value, m_isWrong, m_heard, m_isMoved, m_rows, m_rowN, m_sortOf, m_sizeOf, m_numbers, m_holdsWhat, m_holdsWhich, m_holdsMany, m_bodies, m_ran, m_actKind, m_actN, m_actA, m_isParted]) ?_
  refine g_iloadn C dX5_act_5 1 rfl rfl ?_
  refine g_call0i C (rd_S C (k_X5_isShelf l D q tt x ) gX5_act_X5_isShelf rfl rfl rfl 1 ok_X5_isShelf (rest := []) rfl rfl (Nat.le_of_ble_eq_true rfl) dX5_act_6 ⟨(Nat.le_of_ble_eq_true rfl), (Nat.le_of_ble_eq_true rfl)⟩ ⟨(Nat.le_of_ble_eq_true rfl), (Nat.le_of_ble_eq_true rfl)⟩) (fun _ => rfl) (fun r_6 _ h_6 => ?_)
  obtain rfl := h_6
  refine g_ifeqE C 33 dX5_act_9 rfl rfl (fun c_9 => ?_) (fun c_9 => ?_)
  · refine g_iconst C 0 dX5_act_33 (by decide) ?_
    exact g_iret C ((m_bodies v), 0, (m_isParted v), (m_actKind v), (m_actN v), (m_actA v)) hr dX5_act_34 (Nat.le_of_ble_eq_true rfl) (Nat.le_of_ble_eq_true rfl) rfl (by have hn_ : ¬ acG (m_s v) (ppS (m_holdsWhat v) (m_holdsWhich v)) x y := fun h => c_9 h.1.1; obtain ⟨h1_, h2_, h3_⟩ := act_N (B := (m_bodies v)) (t := z) hn_; rw [h1_, h2_, h3_]; exact ⟨rfl, rfl, rfl⟩)
  · refine g_iloadn C dX5_act_12 2 rfl rfl ?_
    refine g_i2l C dX5_act_13 ?_
    refine g_lconst C 0 dX5_act_14 (by decide) ?_
    refine g_ldc2 C (3) dX5_act_15 w_2 ?_
    refine g_call0i C (rd_S C (k_isIn32 l D q tt (y) 0 (3) 0 (3) (by first | rfl | decide) (by first | rfl | decide)) gX5_act_X5_isIn rfl rfl rfl 3 ok_X5_isIn (rest := []) rfl rfl (Nat.le_of_ble_eq_true rfl) dX5_act_18 ⟨(Nat.le_of_ble_eq_true rfl), (Nat.le_of_ble_eq_true rfl)⟩ ⟨(Nat.le_of_ble_eq_true rfl), (Nat.le_of_ble_eq_true rfl)⟩) (fun _ => rfl) (fun r_18 _ h_18 => ?_)
    obtain rfl := h_18
    refine g_ifeqE C 33 dX5_act_21 rfl rfl (fun c_21 => ?_) (fun c_21 => ?_)
    · refine g_iconst C 0 dX5_act_33 (by decide) ?_
      exact g_iret C ((m_bodies v), 0, (m_isParted v), (m_actKind v), (m_actN v), (m_actA v)) hr dX5_act_34 (Nat.le_of_ble_eq_true rfl) (Nat.le_of_ble_eq_true rfl) rfl (by have hn_ : ¬ acG (m_s v) (ppS (m_holdsWhat v) (m_holdsWhich v)) x y := fun h => c_21 h.1.2; obtain ⟨h1_, h2_, h3_⟩ := act_N (B := (m_bodies v)) (t := z) hn_; rw [h1_, h2_, h3_]; exact ⟨rfl, rfl, rfl⟩)
    · obtain ⟨j, hj, ej, ec⟩ := ix_le (n := 3) (by omega) c_9
      refine g_aloadn C dX5_act_24 0 rfl rfl ?_
      refine g_iloadn C dX5_act_25 1 rfl rfl ?_
      refine g_topci (nI j) (ej) ?_
      refine g_callAi C (rd_V C (k_X5_heldOn l D q tt a ((m_s v), (m_held v), (m_aside v), (m_before v), (m_untried v), (m_isHeld v), (m_tape v), (m_taped v), (m_token v), (m_from v), (m_to v), (m_value v), (m_isWrong v), (m_heard v), (m_isMoved v), (m_rows v), (m_rowN v), (m_sortOf v), (m_sizeOf v), (m_numbers v), (m_holdsWhat v), (m_holdsWhich v), (m_holdsMany v), (m_bodies v), 0, (m_actKind v), (m_actN v), (m_actA v), (m_isParted v)) j (by first | assumption | omega)) gX5_act_X5_heldOn rfl rfl rfl 1 ok_X5_heldOn rfl 0 rfl rfl (rest := []) rfl rfl (Nat.le_of_ble_eq_true rfl) dX5_act_26 ⟨(Nat.le_of_ble_eq_true rfl), (Nat.le_of_ble_eq_true rfl)⟩ ⟨(Nat.le_of_ble_eq_true rfl), (Nat.le_of_ble_eq_true rfl)⟩) (fun r_26 _ h_26 => ?_)
      obtain rfl := h_26
      refine g_topci (hoS (m_s v) (m_holdsWhat v) (m_holdsWhich v) j) rfl ?_
      refine g_iconst C 1 dX5_act_29 (by decide) ?_
      refine g_icmp_eq C 35 dX5_act_30 rfl (fun c_30 => ?_) (fun c_30 => ?_)
      · have hO := ho_pp.mp c_30
        have hW1 : (m_holdsWhat v) j = 1 := Decidable.not_not.mp (fun z_ => by have := hO.1; unfold ppS at this; rw [if_neg z_] at this; exact absurd this (by decide))
        have hO2 : 0 ≤ (m_holdsWhich v) j ∧ (m_holdsWhich v) j < (m_s v) 0 := by have := hO; unfold ppS at this; rw [if_pos hW1] at this; exact this
        obtain ⟨d, hd, ed, ecd⟩ := ix_one hG hO2
        obtain ⟨kd, hk5, hkd_⟩ := (hG.one hd).1
        have hd8 : d < 8 := by omega
        have hpp_ : (ppS (m_holdsWhat v) (m_holdsWhich v)) x.toNatClampNeg = nI d := by rw [ec]; unfold ppS; rw [if_pos hW1, ed]
        have hA_ : acG (m_s v) (ppS (m_holdsWhat v) (m_holdsWhich v)) x y := ⟨⟨c_9, c_21⟩, by rw [hpp_]; rw [ed] at hO2; exact hO2⟩
        refine g_aloadn C dX5_act_35 0 rfl rfl ?_
        refine g_iconst C 0 dX5_act_36 (by decide) ?_
        refine g_put C fx5 w_0 0 28 rfl (by decide) w_3 rfl rfl rfl (Nat.le_of_ble_eq_true rfl) dX5_act_37 (mw q a ((m_s v), (m_held v), (m_aside v), (m_before v), (m_untried v), (m_isHeld v), (m_tape v), (m_taped v), (m_token v), (m_from v), (m_to v), (m_value v), (m_isWrong v), (m_heard v), (m_isMoved v), (m_rows v), (m_rowN v), (m_sortOf v), (m_sizeOf v), (m_numbers v), (m_holdsWhat v), (m_holdsWhich v), (m_holdsMany v), (m_bodies v), 0, (m_actKind v), (m_actN v), (m_actA v), 0)) (by dsimp only [mw, List.set, m_s, m_held, m_aside, m_before, m_untried, m_isHeld, m_tape, m_taped, m_token, m_from, m_to, m_value, m_isWrong, m_heard, m_isMoved, m_rows, m_rowN, m_sortOf, m_sizeOf, m_numbers, m_holdsWhat, m_holdsWhich, m_holdsMany, m_bodies, m_ran, m_actKind, m_actN, m_actA, m_isParted]) ?_
        refine g_aloadn C dX5_act_40 0 rfl rfl ?_
        refine g_aloadn C dX5_act_41 0 rfl rfl ?_
        refine g_aloadn C dX5_act_42 0 rfl rfl ?_
        refine g_get C fx5 w_0 0 21 (v := .ref (a 14)) rfl (by decide) w_4 rfl dX5_act_43 ?_
        refine g_iloadn C dX5_act_46 1 rfl rfl ?_
        refine g_topci (nI j) (ej) ?_
        refine g_iald C 14 (j) (f := (m_holdsWhich v)) rfl rfl (by omega) (by decide) dX5_act_47 ?_
        refine g_topci (nI d) (ed) ?_
        refine g_iconst C 0 dX5_act_48 (by decide) ?_
        refine g_callAi C (rd_V C (k_X5_its l D q tt a ((m_s v), (m_held v), (m_aside v), (m_before v), (m_untried v), (m_isHeld v), (m_tape v), (m_taped v), (m_token v), (m_from v), (m_to v), (m_value v), (m_isWrong v), (m_heard v), (m_isMoved v), (m_rows v), (m_rowN v), (m_sortOf v), (m_sizeOf v), (m_numbers v), (m_holdsWhat v), (m_holdsWhich v), (m_holdsMany v), (m_bodies v), 0, (m_actKind v), (m_actN v), (m_actA v), 0) d 0 (by first | assumption | omega) (by first | assumption | omega)) gX5_act_X5_its rfl rfl rfl 2 ok_X5_its rfl 0 rfl rfl (rest := [.ref (a 0)]) rfl rfl (Nat.le_of_ble_eq_true rfl) dX5_act_49 ⟨(Nat.le_of_ble_eq_true rfl), (Nat.le_of_ble_eq_true rfl)⟩ ⟨(Nat.le_of_ble_eq_true rfl), (Nat.le_of_ble_eq_true rfl)⟩) (fun r_49 _ h_49 => ?_)
        obtain rfl := h_49
        refine g_topci ((m_s v) (7 + 5 * d + 0)) rfl ?_
        refine g_topci (nI kd) (hkd_) ?_
        refine g_put C fx5 w_0 0 25 rfl (by decide) w_5 rfl rfl rfl (Nat.le_of_ble_eq_true rfl) dX5_act_52 (mw q a ((m_s v), (m_held v), (m_aside v), (m_before v), (m_untried v), (m_isHeld v), (m_tape v), (m_taped v), (m_token v), (m_from v), (m_to v), (m_value v), (m_isWrong v), (m_heard v), (m_isMoved v), (m_rows v), (m_rowN v), (m_sortOf v), (m_sizeOf v), (m_numbers v), (m_holdsWhat v), (m_holdsWhich v), (m_holdsMany v), (m_bodies v), 0, (nI kd), (m_actN v), (m_actA v), 0)) (by dsimp only [mw, List.set, m_s, m_held, m_aside, m_before, m_untried, m_isHeld, m_tape, m_taped, m_token, m_from, m_to, m_value, m_isWrong, m_heard, m_isMoved, m_rows, m_rowN, m_sortOf, m_sizeOf, m_numbers, m_holdsWhat, m_holdsWhich, m_holdsMany, m_bodies, m_ran, m_actKind, m_actN, m_actA, m_isParted]) ?_
        refine g_aloadn C dX5_act_55 0 rfl rfl ?_
        refine g_aloadn C dX5_act_56 0 rfl rfl ?_
        refine g_get C fx5 w_0 0 21 (v := .ref (a 14)) rfl (by decide) w_4 rfl dX5_act_57 ?_
        refine g_iloadn C dX5_act_60 1 rfl rfl ?_
        refine g_topci (nI j) (ej) ?_
        refine g_iald C 14 (j) (f := (m_holdsWhich v)) rfl rfl (by omega) (by decide) dX5_act_61 ?_
        refine g_topci (nI d) (ed) ?_
        refine g_put C fx5 w_0 0 26 rfl (by decide) w_6 rfl rfl rfl (Nat.le_of_ble_eq_true rfl) dX5_act_62 (mw q a ((m_s v), (m_held v), (m_aside v), (m_before v), (m_untried v), (m_isHeld v), (m_tape v), (m_taped v), (m_token v), (m_from v), (m_to v), (m_value v), (m_isWrong v), (m_heard v), (m_isMoved v), (m_rows v), (m_rowN v), (m_sortOf v), (m_sizeOf v), (m_numbers v), (m_holdsWhat v), (m_holdsWhich v), (m_holdsMany v), (m_bodies v), 0, (nI kd), (nI d), (m_actA v), 0)) (by dsimp only [mw, List.set, m_s, m_held, m_aside, m_before, m_untried, m_isHeld, m_tape, m_taped, m_token, m_from, m_to, m_value, m_isWrong, m_heard, m_isMoved, m_rows, m_rowN, m_sortOf, m_sizeOf, m_numbers, m_holdsWhat, m_holdsWhich, m_holdsMany, m_bodies, m_ran, m_actKind, m_actN, m_actA, m_isParted]) ?_
        refine g_aloadn C dX5_act_65 0 rfl rfl ?_
        refine g_aloadn C dX5_act_66 0 rfl rfl ?_
        refine g_aloadn C dX5_act_67 0 rfl rfl ?_
        refine g_get C fx5 w_0 0 21 (v := .ref (a 14)) rfl (by decide) w_4 rfl dX5_act_68 ?_
        refine g_iloadn C dX5_act_71 1 rfl rfl ?_
        refine g_topci (nI j) (ej) ?_
        refine g_iald C 14 (j) (f := (m_holdsWhich v)) rfl rfl (by omega) (by decide) dX5_act_72 ?_
        refine g_topci (nI d) (ed) ?_
        refine g_iconst C 2 dX5_act_73 (by decide) ?_
        refine g_callAi C (rd_V C (k_X5_its l D q tt a ((m_s v), (m_held v), (m_aside v), (m_before v), (m_untried v), (m_isHeld v), (m_tape v), (m_taped v), (m_token v), (m_from v), (m_to v), (m_value v), (m_isWrong v), (m_heard v), (m_isMoved v), (m_rows v), (m_rowN v), (m_sortOf v), (m_sizeOf v), (m_numbers v), (m_holdsWhat v), (m_holdsWhich v), (m_holdsMany v), (m_bodies v), 0, (nI kd), (nI d), (m_actA v), 0) d 2 (by first | assumption | omega) (by first | assumption | omega)) gX5_act_X5_its rfl rfl rfl 2 ok_X5_its rfl 0 rfl rfl (rest := [.ref (a 0)]) rfl rfl (Nat.le_of_ble_eq_true rfl) dX5_act_74 ⟨(Nat.le_of_ble_eq_true rfl), (Nat.le_of_ble_eq_true rfl)⟩ ⟨(Nat.le_of_ble_eq_true rfl), (Nat.le_of_ble_eq_true rfl)⟩) (fun r_74 _ h_74 => ?_)
        obtain rfl := h_74
        refine g_topci ((m_s v) (7 + 5 * d + 2)) rfl ?_
        refine g_topci (sE (m_s v) d) (rfl) ?_
        refine g_put C fx5 w_0 0 27 rfl (by decide) w_7 rfl rfl rfl (Nat.le_of_ble_eq_true rfl) dX5_act_77 (mw q a ((m_s v), (m_held v), (m_aside v), (m_before v), (m_untried v), (m_isHeld v), (m_tape v), (m_taped v), (m_token v), (m_from v), (m_to v), (m_value v), (m_isWrong v), (m_heard v), (m_isMoved v), (m_rows v), (m_rowN v), (m_sortOf v), (m_sizeOf v), (m_numbers v), (m_holdsWhat v), (m_holdsWhich v), (m_holdsMany v), (m_bodies v), 0, (nI kd), (nI d), (sE (m_s v) d), 0)) (by dsimp only [mw, List.set, m_s, m_held, m_aside, m_before, m_untried, m_isHeld, m_tape, m_taped, m_token, m_from, m_to, m_value, m_isWrong, m_heard, m_isMoved, m_rows, m_rowN, m_sortOf, m_sizeOf, m_numbers, m_holdsWhat, m_holdsWhich, m_holdsMany, m_bodies, m_ran, m_actKind, m_actN, m_actA, m_isParted]) ?_
        refine g_iloadn C dX5_act_80 2 rfl rfl ?_
        refine g_if_ne C 92 dX5_act_81 rfl (fun c_81 => ?_) (fun c_81 => ?_)
        · refine g_iloadn C dX5_act_92 2 rfl rfl ?_
          refine g_iconst C 1 dX5_act_93 (by decide) ?_
          refine g_icmp_ne C 105 dX5_act_94 rfl (fun c_94 => ?_) (fun c_94 => ?_)
          · refine g_iloadn C dX5_act_105 2 rfl rfl ?_
            refine g_iconst C 2 dX5_act_106 (by decide) ?_
            refine g_icmp_ne C 118 dX5_act_107 rfl (fun c_107 => ?_) (fun c_107 => ?_)
            · refine g_aloadn C dX5_act_118 0 rfl rfl ?_
              refine g_iloadn C dX5_act_119 3 rfl rfl ?_
              refine g_callAi C (rd_V C (k_X5_rises l D q tt a ((m_s v), (m_held v), (m_aside v), (m_before v), (m_untried v), (m_isHeld v), (m_tape v), (m_taped v), (m_token v), (m_from v), (m_to v), (m_value v), (m_isWrong v), (m_heard v), (m_isMoved v), (m_rows v), (m_rowN v), (m_sortOf v), (m_sizeOf v), (m_numbers v), (m_holdsWhat v), (m_holdsWhich v), (m_holdsMany v), (m_bodies v), 0, (nI kd), (nI d), (sE (m_s v) d), 0) 0 kd z rfl (Nat.zero_le 30) rfl hk5 rfl) gX5_act_X5_rises rfl rfl rfl 1 ok_X5_rises rfl 0 rfl rfl (rest := []) rfl rfl (Nat.le_of_ble_eq_true rfl) dX5_act_120 ⟨(Nat.le_of_ble_eq_true rfl), (Nat.le_of_ble_eq_true rfl)⟩ ⟨(Nat.le_of_ble_eq_true rfl), (Nat.le_of_ble_eq_true rfl)⟩) (fun r_120 _ h_120 => ?_)
              obtain rfl := h_120
              refine g_wsc (mw q a ((m_s v), (m_held v), (m_aside v), (m_before v), (m_untried v), (m_isHeld v), (m_tape v), (m_taped v), (m_token v), (m_from v), (m_to v), (m_value v), (m_isWrong v), (m_heard v), (m_isMoved v), (m_rows v), (m_rowN v), (m_sortOf v), (m_sizeOf v), (m_numbers v), (m_holdsWhat v), (m_holdsWhich v), (m_holdsMany v), ((aRi (nI d) (sE (m_s v) d) kd z ((m_bodies v), 0)).2.1.1), (nI (aRi (nI d) (sE (m_s v) d) kd z ((m_bodies v), 0)).2.1.2), (nI kd), (nI d), (sE (m_s v) d), ((aRi (nI d) (sE (m_s v) d) kd z ((m_bodies v), 0)).2.2))) rfl ?_
              refine g_topci ((aRi (nI d) (sE (m_s v) d) kd z ((m_bodies v), 0)).1) rfl ?_
              refine g_istore C [(4, .int ((aRi (nI d) (sE (m_s v) d) kd z ((m_bodies v), 0)).1)), (0, .ref (a 0)), (1, .int x), (2, .int y), (3, .int z)] dX5_act_123 (by decide) rfl ?_
              refine g_aloadn C dX5_act_125 1 rfl rfl ?_
              refine g_get C fx5 w_0 0 28 (v := .int (aRi (nI d) (sE (m_s v) d) kd z ((m_bodies v), 0)).2.2) rfl (by decide) w_3 rfl dX5_act_126 ?_
              refine g_if_eq C 137 dX5_act_129 rfl (fun c_129 => ?_) (fun c_129 => ?_)
              · refine g_iload C dX5_act_137 0 rfl ?_
                exact g_iret C ((aRi (nI d) (sE (m_s v) d) kd z ((m_bodies v), 0)).2.1.1, (nI (aRi (nI d) (sE (m_s v) d) kd z ((m_bodies v), 0)).2.1.2), (aRi (nI d) (sE (m_s v) d) kd z ((m_bodies v), 0)).2.2, (nI kd), (nI d), (sE (m_s v) d)) hr dX5_act_139 (Nat.le_of_ble_eq_true rfl) (Nat.le_of_ble_eq_true rfl) rfl (by obtain ⟨h1_, h2_, h3_⟩ := act_R (t := z) (B := (m_bodies v)) hA_ hpp_ hd8 hk5 hkd_; rw [h1_, h2_, h3_]; unfold acS; rw [if_neg c_81, if_neg c_94, if_neg c_107]; exact ⟨(if_pos c_129).symm, rfl, rfl⟩)
              · refine g_bipush C (-15) dX5_act_132 (by decide) ?_
                refine g_goto C 139 dX5_act_134 rfl ?_
                exact g_iret C ((aRi (nI d) (sE (m_s v) d) kd z ((m_bodies v), 0)).2.1.1, (nI (aRi (nI d) (sE (m_s v) d) kd z ((m_bodies v), 0)).2.1.2), (aRi (nI d) (sE (m_s v) d) kd z ((m_bodies v), 0)).2.2, (nI kd), (nI d), (sE (m_s v) d)) hr dX5_act_139 (Nat.le_of_ble_eq_true rfl) (Nat.le_of_ble_eq_true rfl) rfl (by obtain ⟨h1_, h2_, h3_⟩ := act_R (t := z) (B := (m_bodies v)) hA_ hpp_ hd8 hk5 hkd_; rw [h1_, h2_, h3_]; unfold acS; rw [if_neg c_81, if_neg c_94, if_neg c_107]; exact ⟨(if_neg c_129).symm, rfl, rfl⟩)
            · refine g_aloadn C dX5_act_110 0 rfl rfl ?_
              refine g_iloadn C dX5_act_111 3 rfl rfl ?_
              refine g_callAi C (rd_V C (k_X5_parts l D q tt a ((m_s v), (m_held v), (m_aside v), (m_before v), (m_untried v), (m_isHeld v), (m_tape v), (m_taped v), (m_token v), (m_from v), (m_to v), (m_value v), (m_isWrong v), (m_heard v), (m_isMoved v), (m_rows v), (m_rowN v), (m_sortOf v), (m_sizeOf v), (m_numbers v), (m_holdsWhat v), (m_holdsWhich v), (m_holdsMany v), (m_bodies v), 0, (nI kd), (nI d), (sE (m_s v) d), 0) 0 kd z rfl (Nat.zero_le 30) rfl hk5 rfl) gX5_act_X5_parts rfl rfl rfl 1 ok_X5_parts rfl 0 rfl rfl (rest := []) rfl rfl (Nat.le_of_ble_eq_true rfl) dX5_act_112 ⟨(Nat.le_of_ble_eq_true rfl), (Nat.le_of_ble_eq_true rfl)⟩ ⟨(Nat.le_of_ble_eq_true rfl), (Nat.le_of_ble_eq_true rfl)⟩) (fun r_112 _ h_112 => ?_)
              obtain rfl := h_112
              refine g_wsc (mw q a ((m_s v), (m_held v), (m_aside v), (m_before v), (m_untried v), (m_isHeld v), (m_tape v), (m_taped v), (m_token v), (m_from v), (m_to v), (m_value v), (m_isWrong v), (m_heard v), (m_isMoved v), (m_rows v), (m_rowN v), (m_sortOf v), (m_sizeOf v), (m_numbers v), (m_holdsWhat v), (m_holdsWhich v), (m_holdsMany v), ((aPa (nI d) (sE (m_s v) d) kd z ((m_bodies v), 0)).2.1.1), (nI (aPa (nI d) (sE (m_s v) d) kd z ((m_bodies v), 0)).2.1.2), (nI kd), (nI d), (sE (m_s v) d), ((aPa (nI d) (sE (m_s v) d) kd z ((m_bodies v), 0)).2.2))) rfl ?_
              refine g_topci ((aPa (nI d) (sE (m_s v) d) kd z ((m_bodies v), 0)).1) rfl ?_
              refine g_goto C 123 dX5_act_115 rfl ?_
              refine g_istore C [(4, .int ((aPa (nI d) (sE (m_s v) d) kd z ((m_bodies v), 0)).1)), (0, .ref (a 0)), (1, .int x), (2, .int y), (3, .int z)] dX5_act_123 (by decide) rfl ?_
              refine g_aloadn C dX5_act_125 1 rfl rfl ?_
              refine g_get C fx5 w_0 0 28 (v := .int (aPa (nI d) (sE (m_s v) d) kd z ((m_bodies v), 0)).2.2) rfl (by decide) w_3 rfl dX5_act_126 ?_
              refine g_if_eq C 137 dX5_act_129 rfl (fun c_129 => ?_) (fun c_129 => ?_)
              · refine g_iload C dX5_act_137 0 rfl ?_
                exact g_iret C ((aPa (nI d) (sE (m_s v) d) kd z ((m_bodies v), 0)).2.1.1, (nI (aPa (nI d) (sE (m_s v) d) kd z ((m_bodies v), 0)).2.1.2), (aPa (nI d) (sE (m_s v) d) kd z ((m_bodies v), 0)).2.2, (nI kd), (nI d), (sE (m_s v) d)) hr dX5_act_139 (Nat.le_of_ble_eq_true rfl) (Nat.le_of_ble_eq_true rfl) rfl (by obtain ⟨h1_, h2_, h3_⟩ := act_R (t := z) (B := (m_bodies v)) hA_ hpp_ hd8 hk5 hkd_; rw [h1_, h2_, h3_]; unfold acS; rw [if_neg c_81, if_neg c_94, if_pos c_107]; exact ⟨(if_pos c_129).symm, rfl, rfl⟩)
              · refine g_bipush C (-15) dX5_act_132 (by decide) ?_
                refine g_goto C 139 dX5_act_134 rfl ?_
                exact g_iret C ((aPa (nI d) (sE (m_s v) d) kd z ((m_bodies v), 0)).2.1.1, (nI (aPa (nI d) (sE (m_s v) d) kd z ((m_bodies v), 0)).2.1.2), (aPa (nI d) (sE (m_s v) d) kd z ((m_bodies v), 0)).2.2, (nI kd), (nI d), (sE (m_s v) d)) hr dX5_act_139 (Nat.le_of_ble_eq_true rfl) (Nat.le_of_ble_eq_true rfl) rfl (by obtain ⟨h1_, h2_, h3_⟩ := act_R (t := z) (B := (m_bodies v)) hA_ hpp_ hd8 hk5 hkd_; rw [h1_, h2_, h3_]; unfold acS; rw [if_neg c_81, if_neg c_94, if_pos c_107]; exact ⟨(if_neg c_129).symm, rfl, rfl⟩)
          · refine g_aloadn C dX5_act_97 0 rfl rfl ?_
            refine g_iloadn C dX5_act_98 3 rfl rfl ?_
            refine g_callAi C (rd_V C (k_X5_laughs l D q tt a ((m_s v), (m_held v), (m_aside v), (m_before v), (m_untried v), (m_isHeld v), (m_tape v), (m_taped v), (m_token v), (m_from v), (m_to v), (m_value v), (m_isWrong v), (m_heard v), (m_isMoved v), (m_rows v), (m_rowN v), (m_sortOf v), (m_sizeOf v), (m_numbers v), (m_holdsWhat v), (m_holdsWhich v), (m_holdsMany v), (m_bodies v), 0, (nI kd), (nI d), (sE (m_s v) d), 0) 0 kd z rfl (Nat.zero_le 30) rfl hk5) gX5_act_X5_laughs rfl rfl rfl 1 ok_X5_laughs rfl 0 rfl rfl (rest := []) rfl rfl (Nat.le_of_ble_eq_true rfl) dX5_act_99 ⟨(Nat.le_of_ble_eq_true rfl), (Nat.le_of_ble_eq_true rfl)⟩ ⟨(Nat.le_of_ble_eq_true rfl), (Nat.le_of_ble_eq_true rfl)⟩) (fun r_99 _ h_99 => ?_)
            obtain rfl := h_99
            refine g_wsc (mw q a ((m_s v), (m_held v), (m_aside v), (m_before v), (m_untried v), (m_isHeld v), (m_tape v), (m_taped v), (m_token v), (m_from v), (m_to v), (m_value v), (m_isWrong v), (m_heard v), (m_isMoved v), (m_rows v), (m_rowN v), (m_sortOf v), (m_sizeOf v), (m_numbers v), (m_holdsWhat v), (m_holdsWhich v), (m_holdsMany v), ((aLa (nI d) (sE (m_s v) d) kd z ((m_bodies v), 0)).2.1), (nI (aLa (nI d) (sE (m_s v) d) kd z ((m_bodies v), 0)).2.2), (nI kd), (nI d), (sE (m_s v) d), 0)) rfl ?_
            refine g_topci ((aLa (nI d) (sE (m_s v) d) kd z ((m_bodies v), 0)).1) rfl ?_
            refine g_goto C 123 dX5_act_102 rfl ?_
            refine g_istore C [(4, .int ((aLa (nI d) (sE (m_s v) d) kd z ((m_bodies v), 0)).1)), (0, .ref (a 0)), (1, .int x), (2, .int y), (3, .int z)] dX5_act_123 (by decide) rfl ?_
            refine g_aloadn C dX5_act_125 1 rfl rfl ?_
            refine g_get C fx5 w_0 0 28 (v := .int 0) rfl (by decide) w_3 rfl dX5_act_126 ?_
            refine g_if_eqT C 137 dX5_act_129 rfl (by decide) ?_
            refine g_iload C dX5_act_137 0 rfl ?_
            exact g_iret C ((aLa (nI d) (sE (m_s v) d) kd z ((m_bodies v), 0)).2.1, (nI (aLa (nI d) (sE (m_s v) d) kd z ((m_bodies v), 0)).2.2), 0, (nI kd), (nI d), (sE (m_s v) d)) hr dX5_act_139 (Nat.le_of_ble_eq_true rfl) (Nat.le_of_ble_eq_true rfl) rfl (by obtain ⟨h1_, h2_, h3_⟩ := act_R (t := z) (B := (m_bodies v)) hA_ hpp_ hd8 hk5 hkd_; rw [h1_, h2_, h3_]; unfold acS; rw [if_neg c_81, if_pos c_94]; exact ⟨(if_pos rfl).symm, rfl, rfl⟩)
        · refine g_aloadn C dX5_act_84 0 rfl rfl ?_
          refine g_iloadn C dX5_act_85 3 rfl rfl ?_
          refine g_callAi C (rd_V C (k_X5_coughs l D q tt a ((m_s v), (m_held v), (m_aside v), (m_before v), (m_untried v), (m_isHeld v), (m_tape v), (m_taped v), (m_token v), (m_from v), (m_to v), (m_value v), (m_isWrong v), (m_heard v), (m_isMoved v), (m_rows v), (m_rowN v), (m_sortOf v), (m_sizeOf v), (m_numbers v), (m_holdsWhat v), (m_holdsWhich v), (m_holdsMany v), (m_bodies v), 0, (nI kd), (nI d), (sE (m_s v) d), 0) 0 kd z rfl (Nat.zero_le 30) rfl hk5) gX5_act_X5_coughs rfl rfl rfl 1 ok_X5_coughs rfl 0 rfl rfl (rest := []) rfl rfl (Nat.le_of_ble_eq_true rfl) dX5_act_86 ⟨(Nat.le_of_ble_eq_true rfl), (Nat.le_of_ble_eq_true rfl)⟩ ⟨(Nat.le_of_ble_eq_true rfl), (Nat.le_of_ble_eq_true rfl)⟩) (fun r_86 _ h_86 => ?_)
          obtain rfl := h_86
          refine g_wsc (mw q a ((m_s v), (m_held v), (m_aside v), (m_before v), (m_untried v), (m_isHeld v), (m_tape v), (m_taped v), (m_token v), (m_from v), (m_to v), (m_value v), (m_isWrong v), (m_heard v), (m_isMoved v), (m_rows v), (m_rowN v), (m_sortOf v), (m_sizeOf v), (m_numbers v), (m_holdsWhat v), (m_holdsWhich v), (m_holdsMany v), ((aCo (nI d) kd z ((m_bodies v), 0)).2.1), (nI (aCo (nI d) kd z ((m_bodies v), 0)).2.2), (nI kd), (nI d), (sE (m_s v) d), 0)) rfl ?_
          refine g_topci ((aCo (nI d) kd z ((m_bodies v), 0)).1) rfl ?_
          refine g_goto C 123 dX5_act_89 rfl ?_
          refine g_istore C [(4, .int ((aCo (nI d) kd z ((m_bodies v), 0)).1)), (0, .ref (a 0)), (1, .int x), (2, .int y), (3, .int z)] dX5_act_123 (by decide) rfl ?_
          refine g_aloadn C dX5_act_125 1 rfl rfl ?_
          refine g_get C fx5 w_0 0 28 (v := .int 0) rfl (by decide) w_3 rfl dX5_act_126 ?_
          refine g_if_eqT C 137 dX5_act_129 rfl (by decide) ?_
          refine g_iload C dX5_act_137 0 rfl ?_
          exact g_iret C ((aCo (nI d) kd z ((m_bodies v), 0)).2.1, (nI (aCo (nI d) kd z ((m_bodies v), 0)).2.2), 0, (nI kd), (nI d), (sE (m_s v) d)) hr dX5_act_139 (Nat.le_of_ble_eq_true rfl) (Nat.le_of_ble_eq_true rfl) rfl (by obtain ⟨h1_, h2_, h3_⟩ := act_R (t := z) (B := (m_bodies v)) hA_ hpp_ hd8 hk5 hkd_; rw [h1_, h2_, h3_]; unfold acS; rw [if_pos c_81]; exact ⟨(if_pos rfl).symm, rfl, rfl⟩)
      · refine g_iconst C 0 dX5_act_33 (by decide) ?_
        exact g_iret C ((m_bodies v), 0, (m_isParted v), (m_actKind v), (m_actN v), (m_actA v)) hr dX5_act_34 (Nat.le_of_ble_eq_true rfl) (Nat.le_of_ble_eq_true rfl) rfl (by have hn_ : ¬ acG (m_s v) (ppS (m_holdsWhat v) (m_holdsWhich v)) x y := fun h => c_30 (ho_pp.mpr (by have := h.2; rw [ec] at this; exact this)); obtain ⟨h1_, h2_, h3_⟩ := act_N (B := (m_bodies v)) (t := z) hn_; rw [h1_, h2_, h3_]; exact ⟨rfl, rfl, rfl⟩)

