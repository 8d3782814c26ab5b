set_option maxRecDepth 100000 in
set_option maxHeartbeats 4000000 in
theorem k_X5_taken (l : Launch) (D : va_G) (q : Nat → ClassId) (tt : Nat → Nat) (a : Nat → Nat) (v : MC) (N : Nat) (x : Int32) (y : Int32) (hG : Gd (m_s v) N) : MI l D q tt yX5_taken wsX5_taken ({ frames := 2, cells := 0, slots := 0, locals := 45 } : Room) [.ref (a 0), .int x, .int y] (mw q a v) (fun (r : Int32) (u : Unit) => r = R_taken (m_s v) (m_holdsWhat v) (m_holdsWhich v) (m_holdsMany v) x y) (fun (_ : Unit) => (mw q a v)) 0 0 := by
  refine MI.of RX5 [(0, .ref (a 0)), (1, .int x), (2, .int y)] (by decide) rfl rfl (Nat.le_of_ble_eq_true rfl) rfl ?_
  intro p e s m args below meth c A C hr hnm
  have w_0 : Cond.constantLong RX5 279 (13) ∈ wsX5_taken := by decide +kernel
  have w_1 : Cond.constantLong RX5 281 (6) ∈ wsX5_taken := by decide +kernel
  have w_2 : Cond.constantLong RX5 156 (9) ∈ wsX5_taken := by decide +kernel
  have w_3 : ∀ w ∈ u_ws RX5 TX5 29, w ∈ wsX5_taken := by decide +kernel
  have w_4 : Cond.fieldLink RX5 50 (TX5 21).1 (TX5 21).2.1 (TX5 21).2.2.1 ∈ wsX5_taken := by decide +kernel
  have w_5 : Cond.fieldLink RX5 53 (TX5 22).1 (TX5 22).2.1 (TX5 22).2.2.1 ∈ wsX5_taken := by decide +kernel
  have h8 := hG.le
  refine g_iloadn C dX5_taken_0 1 rfl rfl ?_
  refine g_call0i C (rd_S C (k_X5_isShelf l D q tt x ) gX5_taken_X5_isShelf rfl rfl rfl 1 ok_X5_isShelf (rest := []) rfl rfl (Nat.le_of_ble_eq_true rfl) dX5_taken_1 ⟨(Nat.le_of_ble_eq_true rfl), (Nat.le_of_ble_eq_true rfl)⟩ ⟨(Nat.le_of_ble_eq_true rfl), (Nat.le_of_ble_eq_true rfl)⟩) (fun _ => rfl) (fun r_1 _ h_1 => ?_)
  obtain rfl := h_1
  refine g_ifeqE C 33 dX5_taken_4 rfl rfl (fun c_4 => ?_) (fun c_4 => ?_)
  · refine g_iconst C (-1) dX5_taken_33 (by decide) ?_
    exact g_iret C () hr dX5_taken_34 (Nat.le_of_ble_eq_true rfl) (Nat.le_of_ble_eq_true rfl) rfl (by have hn_ : ¬ tkG x y := fun h => c_4 h.1; unfold R_taken; rw [if_neg hn_])
  · refine g_iloadn C dX5_taken_7 2 rfl rfl ?_
    refine g_i2l C dX5_taken_8 ?_
    refine g_lconst C 0 dX5_taken_9 (by decide) ?_
    refine g_ldc2 C (13) dX5_taken_10 w_0 ?_
    refine g_call0i C (rd_S C (k_isIn32 l D q tt (y) 0 (13) 0 (13) (by first | rfl | decide) (by first | rfl | decide)) gX5_taken_X5_isIn rfl rfl rfl 3 ok_X5_isIn (rest := []) rfl rfl (Nat.le_of_ble_eq_true rfl) dX5_taken_13 ⟨(Nat.le_of_ble_eq_true rfl), (Nat.le_of_ble_eq_true rfl)⟩ ⟨(Nat.le_of_ble_eq_true rfl), (Nat.le_of_ble_eq_true rfl)⟩) (fun _ => rfl) (fun r_13 _ h_13 => ?_)
    obtain rfl := h_13
    refine g_ifeqE C 33 dX5_taken_16 rfl rfl (fun c_16 => ?_) (fun c_16 => ?_)
    · refine g_iconst C (-1) dX5_taken_33 (by decide) ?_
      exact g_iret C () hr dX5_taken_34 (Nat.le_of_ble_eq_true rfl) (Nat.le_of_ble_eq_true rfl) rfl (by have hn_ : ¬ tkG x y := fun h => (by rcases h.2 with h_ | h_ <;> first | exact c_16 ⟨h_.1, Int32.le_trans h_.2 (by decide)⟩ | exact c_16 ⟨Int32.le_trans (by decide) h_.1, h_.2⟩); unfold R_taken; rw [if_neg hn_])
    · refine g_iloadn C dX5_taken_19 2 rfl rfl ?_
      refine g_i2l C dX5_taken_20 ?_
      refine g_ldc2 C (6) dX5_taken_21 w_1 ?_
      refine g_ldc2 C (9) dX5_taken_24 w_2 ?_
      refine g_call0i C (rd_S C (k_isIn32 l D q tt (y) (6) (9) (6) (9) (by first | rfl | decide) (by first | rfl | decide)) gX5_taken_X5_isIn rfl rfl rfl 3 ok_X5_isIn (rest := []) rfl rfl (Nat.le_of_ble_eq_true rfl) dX5_taken_27 ⟨(Nat.le_of_ble_eq_true rfl), (Nat.le_of_ble_eq_true rfl)⟩ ⟨(Nat.le_of_ble_eq_true rfl), (Nat.le_of_ble_eq_true rfl)⟩) (fun _ => rfl) (fun r_27 _ h_27 => ?_)
      obtain rfl := h_27
      refine g_ifeqE C 35 dX5_taken_30 rfl rfl (fun c_30 => ?_) (fun c_30 => ?_)
      · obtain ⟨j, hj, ej, ec⟩ := ix_le (n := 3) (by omega) c_4
        refine g_aloadn C dX5_taken_35 0 rfl rfl ?_
        refine g_iloadn C dX5_taken_36 1 rfl rfl ?_
        refine g_topci (nI j) (ej) ?_
        refine g_callAi C (rd_V C (k_X5_heldOn l D q tt a v j (by first | assumption | omega)) gX5_taken_X5_heldOn rfl rfl rfl 1 ok_X5_heldOn rfl 0 rfl rfl (rest := []) rfl rfl (Nat.le_of_ble_eq_true rfl) dX5_taken_37 ⟨(Nat.le_of_ble_eq_true rfl), (Nat.le_of_ble_eq_true rfl)⟩ ⟨(Nat.le_of_ble_eq_true rfl), (Nat.le_of_ble_eq_true rfl)⟩) (fun r_37 _ h_37 => ?_)
        obtain rfl := h_37
        refine g_istoren C [(3, .int (hoS (m_s v) (m_holdsWhat v) (m_holdsWhich v) j)), (0, .ref (a 0)), (1, .int x), (2, .int y)] dX5_taken_40 rfl (by decide) rfl ?_
        refine g_iloadn C dX5_taken_41 0 rfl rfl ?_
        refine g_if_ne C 48 dX5_taken_42 rfl (fun c_42 => ?_) (fun c_42 => ?_)
        · refine g_iloadn C dX5_taken_48 3 rfl rfl ?_
          refine g_bipush C 10 dX5_taken_49 (by decide) ?_
          refine g_icmp_ge C 89 dX5_taken_51 rfl (fun c_51 => ?_) (fun c_51 => ?_)
          · refine g_iloadn C dX5_taken_89 0 rfl rfl ?_
            refine g_iconst C 2 dX5_taken_90 (by decide) ?_
            refine g_icmp_ne C 116 dX5_taken_91 rfl (fun c_91 => ?_) (fun c_91 => ?_)
            · refine g_bipush C (-13) dX5_taken_116 (by decide) ?_
              exact g_iret C () hr dX5_taken_118 (Nat.le_of_ble_eq_true rfl) (Nat.le_of_ble_eq_true rfl) rfl (by have hg_ : tkG x y := ⟨c_4, tk_rng c_16 c_30⟩; unfold R_taken; rw [if_pos hg_, ec, if_neg c_42, if_neg (Int32.not_lt.mpr c_51), if_neg (fun h => c_91 h.1)])
            · refine g_aloadn C dX5_taken_94 1 rfl rfl ?_
              refine g_get C fx5 w_3 0 21 (v := .ref (a 14)) rfl (by decide) w_4 rfl dX5_taken_95 ?_
              refine g_iloadn C dX5_taken_98 2 rfl rfl ?_
              refine g_topci (nI j) (ej) ?_
              refine g_iald C 14 (j) (f := (m_holdsWhich v)) rfl rfl (by omega) (by decide) dX5_taken_99 ?_
              refine g_iloadn C dX5_taken_100 3 rfl rfl ?_
              refine g_bipush C 10 dX5_taken_101 (by decide) ?_
              refine g_isub C dX5_taken_103 ?_
              refine g_icmp_ne C 116 dX5_taken_104 rfl (fun c_104 => ?_) (fun c_104 => ?_)
              · refine g_bipush C (-13) dX5_taken_116 (by decide) ?_
                exact g_iret C () hr dX5_taken_118 (Nat.le_of_ble_eq_true rfl) (Nat.le_of_ble_eq_true rfl) rfl (by have hg_ : tkG x y := ⟨c_4, tk_rng c_16 c_30⟩; unfold R_taken; rw [if_pos hg_, ec, if_neg c_42, if_neg (Int32.not_lt.mpr c_51), if_neg (fun h => c_104 h.2)])
              · refine g_aloadn C dX5_taken_107 1 rfl rfl ?_
                refine g_get C fx5 w_3 0 22 (v := .ref (a 15)) rfl (by decide) w_5 rfl dX5_taken_108 ?_
                refine g_iloadn C dX5_taken_111 2 rfl rfl ?_
                refine g_topci (nI j) (ej) ?_
                refine g_iald C 15 (j) (f := (m_holdsMany v)) rfl rfl (by omega) (by decide) dX5_taken_112 ?_
                refine g_goto C 118 dX5_taken_113 rfl ?_
                exact g_iret C () hr dX5_taken_118 (Nat.le_of_ble_eq_true rfl) (Nat.le_of_ble_eq_true rfl) rfl (by have hg_ : tkG x y := ⟨c_4, tk_rng c_16 c_30⟩; unfold R_taken; rw [if_pos hg_, ec, if_neg c_42, if_neg (Int32.not_lt.mpr c_51), if_pos ⟨c_91, c_104⟩])
          · refine g_iloadn C dX5_taken_54 0 rfl rfl ?_
            refine g_iconst C 1 dX5_taken_55 (by decide) ?_
            refine g_icmp_ne C 86 dX5_taken_56 rfl (fun c_56 => ?_) (fun c_56 => ?_)
            · refine g_bipush C (-13) dX5_taken_86 (by decide) ?_
              exact g_iret C () hr dX5_taken_88 (Nat.le_of_ble_eq_true rfl) (Nat.le_of_ble_eq_true rfl) rfl (by have hg_ : tkG x y := ⟨c_4, tk_rng c_16 c_30⟩; unfold R_taken; rw [if_pos hg_, ec, if_neg c_42, if_pos (Int32.not_le.mp c_51), if_neg (fun h => c_56 h.1)])
            · have hO := ho_pp.mp c_56
              have hW1 : (m_holdsWhat v) j = 1 := Decidable.not_not.mp (fun z_ => by have := hO.1; unfold ppS at this; rw [if_neg z_] at this; exact absurd this (by decide))
              have hO2 : 0 ≤ (m_holdsWhich v) j ∧ (m_holdsWhich v) j < (m_s v) 0 := by have := hO; unfold ppS at this; rw [if_pos hW1] at this; exact this
              obtain ⟨d, hd, ed, ecd⟩ := ix_one hG hO2
              refine g_aloadn C dX5_taken_59 1 rfl rfl ?_
              refine g_aloadn C dX5_taken_60 1 rfl rfl ?_
              refine g_get C fx5 w_3 0 21 (v := .ref (a 14)) rfl (by decide) w_4 rfl dX5_taken_61 ?_
              refine g_iloadn C dX5_taken_64 2 rfl rfl ?_
              refine g_topci (nI j) (ej) ?_
              refine g_iald C 14 (j) (f := (m_holdsWhich v)) rfl rfl (by omega) (by decide) dX5_taken_65 ?_
              refine g_topci (nI d) (ed) ?_
              refine g_iconst C 0 dX5_taken_66 (by decide) ?_
              refine g_callAi C (rd_V C (k_X5_its l D q tt a v d 0 (by first | assumption | omega) (by first | assumption | omega)) gX5_taken_X5_its rfl rfl rfl 2 ok_X5_its rfl 0 rfl rfl (rest := []) rfl rfl (Nat.le_of_ble_eq_true rfl) dX5_taken_67 ⟨(Nat.le_of_ble_eq_true rfl), (Nat.le_of_ble_eq_true rfl)⟩ ⟨(Nat.le_of_ble_eq_true rfl), (Nat.le_of_ble_eq_true rfl)⟩) (fun r_67 _ h_67 => ?_)
              obtain rfl := h_67
              refine g_topci (sK (m_s v) d) (rfl) ?_
              refine g_iloadn C dX5_taken_70 3 rfl rfl ?_
              refine g_call0i C (rd_S C (k_X5_isUnder l D q tt (sK (m_s v) d) y ) gX5_taken_X5_isUnder rfl rfl rfl 2 ok_X5_isUnder (rest := []) rfl rfl (Nat.le_of_ble_eq_true rfl) dX5_taken_71 ⟨(Nat.le_of_ble_eq_true rfl), (Nat.le_of_ble_eq_true rfl)⟩ ⟨(Nat.le_of_ble_eq_true rfl), (Nat.le_of_ble_eq_true rfl)⟩) (fun _ => rfl) (fun r_71 _ h_71 => ?_)
              obtain rfl := h_71
              refine g_ifeqE C 86 dX5_taken_74 rfl rfl (fun c_74 => ?_) (fun c_74 => ?_)
              · refine g_bipush C (-13) dX5_taken_86 (by decide) ?_
                exact g_iret C () hr dX5_taken_88 (Nat.le_of_ble_eq_true rfl) (Nat.le_of_ble_eq_true rfl) rfl (by have hg_ : tkG x y := ⟨c_4, tk_rng c_16 c_30⟩; unfold R_taken; rw [if_pos hg_, ec, if_neg c_42, if_pos (Int32.not_le.mp c_51), if_neg (fun h => c_74 (by have := h.2; rw [ecd] at this; exact this))])
              · refine g_aloadn C dX5_taken_77 1 rfl rfl ?_
                refine g_get C fx5 w_3 0 21 (v := .ref (a 14)) rfl (by decide) w_4 rfl dX5_taken_78 ?_
                refine g_iloadn C dX5_taken_81 2 rfl rfl ?_
                refine g_topci (nI j) (ej) ?_
                refine g_iald C 14 (j) (f := (m_holdsWhich v)) rfl rfl (by omega) (by decide) dX5_taken_82 ?_
                refine g_goto C 88 dX5_taken_83 rfl ?_
                exact g_iret C () hr dX5_taken_88 (Nat.le_of_ble_eq_true rfl) (Nat.le_of_ble_eq_true rfl) rfl (by have hg_ : tkG x y := ⟨c_4, tk_rng c_16 c_30⟩; unfold R_taken; rw [if_pos hg_, ec, if_neg c_42, if_pos (Int32.not_le.mp c_51), if_pos ⟨c_56, by rw [ecd]; exact c_74⟩])
        · refine g_bipush C (-11) dX5_taken_45 (by decide) ?_
          exact g_iret C () hr dX5_taken_47 (Nat.le_of_ble_eq_true rfl) (Nat.le_of_ble_eq_true rfl) rfl (by have hg_ : tkG x y := ⟨c_4, tk_rng c_16 c_30⟩; unfold R_taken; rw [if_pos hg_, ec, if_pos c_42])
      · refine g_iconst C (-1) dX5_taken_33 (by decide) ?_
        exact g_iret C () hr dX5_taken_34 (Nat.le_of_ble_eq_true rfl) (Nat.le_of_ble_eq_true rfl) rfl (by have hn_ : ¬ tkG x y := fun h => (by rcases h.2 with h_ | h_ <;> first | exact absurd (Int32.le_trans c_30.1 h_.2) (by decide) | exact absurd (Int32.le_trans h_.1 c_30.2) (by decide)); unfold R_taken; rw [if_neg hn_])

