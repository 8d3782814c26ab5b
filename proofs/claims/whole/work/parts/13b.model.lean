set_option maxRecDepth 100000 in
set_option maxHeartbeats 4000000 in
theorem k_X5_needsOf (l : Launch) (D : va_G) (q : Nat → ClassId) (tt : Nat → Nat) (a : Nat → Nat) (v : MC) (N : Nat) (o : Nat) (hG : Gd (m_s v) N) (ho : o < N) : MI l D q tt yX5_needsOf wsX5_needsOf ({ frames := 1, cells := 0, slots := 0, locals := 22 } : Room) [.ref (a 0), .int (nI o)] (mw q a v) (fun (r : Int32) (u : Unit) => r = (neS (m_s v) o)) (fun (_ : Unit) => (mw q a v)) 0 0 := by
  refine MI.of RX5 [(0, .ref (a 0)), (1, .int (nI o))] (by decide) rfl rfl (Nat.le_of_ble_eq_true rfl) rfl ?_
  intro p e s m args below meth c A C hr hnm
  have w_0 : ∀ w ∈ u_ws RX5 TX5 29, w ∈ wsX5_needsOf := by decide +kernel
  have w_1 : Cond.fieldLink RX5 7 (TX5 0).1 (TX5 0).2.1 (TX5 0).2.2.1 ∈ wsX5_needsOf := by decide +kernel
  have h8 := hG.le
  refine g_aloadn C dX5_needsOf_0 0 rfl rfl ?_
  refine g_iloadn C dX5_needsOf_1 1 rfl rfl ?_
  refine g_iconst C 2 dX5_needsOf_2 (by decide) ?_
  refine g_callAi C (rd_V C (k_X5_its l D q tt a v o 2 (by first | assumption | omega) (by first | assumption | omega)) gX5_needsOf_X5_its rfl rfl rfl 2 ok_X5_its rfl 0 rfl rfl (rest := []) rfl rfl (Nat.le_of_ble_eq_true rfl) dX5_needsOf_3 ⟨(Nat.le_of_ble_eq_true rfl), (Nat.le_of_ble_eq_true rfl)⟩ ⟨(Nat.le_of_ble_eq_true rfl), (Nat.le_of_ble_eq_true rfl)⟩) (fun r_3 _ h_3 => ?_)
  obtain rfl := h_3
  refine g_istoren C [(2, .int ((m_s v) (7 + 5 * o + 2))), (0, .ref (a 0)), (1, .int (nI o))] dX5_needsOf_6 rfl (by decide) rfl ?_
  refine g_aloadn C dX5_needsOf_7 1 rfl rfl ?_
  refine g_get C fx5 w_0 0 0 (v := .ref (a 1)) rfl (by decide) w_1 rfl dX5_needsOf_8 ?_
  refine g_iconst C 1 dX5_needsOf_11 (by decide) ?_
  refine g_iald C 1 (1) (f := (m_s v)) rfl rfl (by omega) (by decide) dX5_needsOf_12 ?_
  refine g_aloadn C dX5_needsOf_13 1 rfl rfl ?_
  refine g_get C fx5 w_0 0 0 (v := .ref (a 1)) rfl (by decide) w_1 rfl dX5_needsOf_14 ?_
  refine g_iconst C 4 dX5_needsOf_17 (by decide) ?_
  refine g_iald C 1 (4) (f := (m_s v)) rfl rfl (by omega) (by decide) dX5_needsOf_18 ?_
  refine g_irem C dX5_needsOf_19 hG.cue ?_
  refine g_if_ne C 27 dX5_needsOf_20 rfl (fun c_20 => ?_) (fun c_20 => ?_)
  · refine g_iloadn C dX5_needsOf_27 0 rfl rfl ?_
    refine g_topci (haS (m_s v) o) (by unfold haS sE; rw [if_neg c_20]) ?_
    refine g_istoren C [(3, .int (haS (m_s v) o)), (2, .int ((m_s v) (7 + 5 * o + 2))), (0, .ref (a 0)), (1, .int (nI o))] dX5_needsOf_28 rfl (by decide) rfl ?_
    refine g_aloadn C dX5_needsOf_29 2 rfl rfl ?_
    refine g_iloadn C dX5_needsOf_30 3 rfl rfl ?_
    refine g_iconst C 0 dX5_needsOf_31 (by decide) ?_
    refine g_callAi C (rd_V C (k_X5_its l D q tt a v o 0 (by first | assumption | omega) (by first | assumption | omega)) gX5_needsOf_X5_its rfl rfl rfl 2 ok_X5_its rfl 0 rfl rfl (rest := []) rfl rfl (Nat.le_of_ble_eq_true rfl) dX5_needsOf_32 ⟨(Nat.le_of_ble_eq_true rfl), (Nat.le_of_ble_eq_true rfl)⟩ ⟨(Nat.le_of_ble_eq_true rfl), (Nat.le_of_ble_eq_true rfl)⟩) (fun r_32 _ h_32 => ?_)
    obtain rfl := h_32
    by_cases s_35_1 : ((m_s v) (7 + 5 * o + 0)) = 1
    · refine g_tin C 68 dX5_needsOf_35 (by rw [s_35_1]; decide) (by rw [s_35_1]; decide) (by rw [s_35_1]; rfl) rfl ?_
      refine g_iloadn C dX5_needsOf_68 1 rfl rfl ?_
      refine g_aloadn C dX5_needsOf_69 2 rfl rfl ?_
      refine g_iloadn C dX5_needsOf_70 3 rfl rfl ?_
      refine g_iconst C 1 dX5_needsOf_71 (by decide) ?_
      refine g_callAi C (rd_V C (k_X5_its l D q tt a v o 1 (by first | assumption | omega) (by first | assumption | omega)) gX5_needsOf_X5_its rfl rfl rfl 2 ok_X5_its rfl 0 rfl rfl (rest := [.int ((m_s v) (7 + 5 * o + 2))]) rfl rfl (Nat.le_of_ble_eq_true rfl) dX5_needsOf_72 ⟨(Nat.le_of_ble_eq_true rfl), (Nat.le_of_ble_eq_true rfl)⟩ ⟨(Nat.le_of_ble_eq_true rfl), (Nat.le_of_ble_eq_true rfl)⟩) (fun r_72 _ h_72 => ?_)
      obtain rfl := h_72
      refine g_bipush C 10 dX5_needsOf_75 (by decide) ?_
      refine g_idiv C dX5_needsOf_77 (by decide) ?_
      refine g_isub C dX5_needsOf_78 ?_
      exact g_iret C () hr dX5_needsOf_79 (Nat.le_of_ble_eq_true rfl) (Nat.le_of_ble_eq_true rfl) rfl (by unfold neS sK sE sP; rw [if_pos s_35_1])
    by_cases s_35_2 : ((m_s v) (7 + 5 * o + 0)) = 2
    · refine g_tin C 80 dX5_needsOf_35 (by rw [s_35_2]; decide) (by rw [s_35_2]; decide) (by rw [s_35_2]; rfl) rfl ?_
      refine g_iloadn C dX5_needsOf_80 0 rfl rfl ?_
      exact g_iret C () hr dX5_needsOf_81 (Nat.le_of_ble_eq_true rfl) (Nat.le_of_ble_eq_true rfl) rfl (by unfold neS sK sE sP; rw [if_neg s_35_1, if_pos s_35_2])
    by_cases s_35_3 : ((m_s v) (7 + 5 * o + 0)) = 3
    · refine g_tin C 82 dX5_needsOf_35 (by rw [s_35_3]; decide) (by rw [s_35_3]; decide) (by rw [s_35_3]; rfl) rfl ?_
      refine g_iloadn C dX5_needsOf_82 1 rfl rfl ?_
      refine g_aloadn C dX5_needsOf_83 2 rfl rfl ?_
      refine g_iloadn C dX5_needsOf_84 3 rfl rfl ?_
      refine g_iconst C 1 dX5_needsOf_85 (by decide) ?_
      refine g_callAi C (rd_V C (k_X5_its l D q tt a v o 1 (by first | assumption | omega) (by first | assumption | omega)) gX5_needsOf_X5_its rfl rfl rfl 2 ok_X5_its rfl 0 rfl rfl (rest := [.int ((m_s v) (7 + 5 * o + 2))]) rfl rfl (Nat.le_of_ble_eq_true rfl) dX5_needsOf_86 ⟨(Nat.le_of_ble_eq_true rfl), (Nat.le_of_ble_eq_true rfl)⟩ ⟨(Nat.le_of_ble_eq_true rfl), (Nat.le_of_ble_eq_true rfl)⟩) (fun r_86 _ h_86 => ?_)
      obtain rfl := h_86
      refine g_bipush C 10 dX5_needsOf_89 (by decide) ?_
      refine g_idiv C dX5_needsOf_91 (by decide) ?_
      refine g_isub C dX5_needsOf_92 ?_
      refine g_iconst C 2 dX5_needsOf_93 (by decide) ?_
      refine g_iadd C dX5_needsOf_94 ?_
      exact g_iret C () hr dX5_needsOf_95 (Nat.le_of_ble_eq_true rfl) (Nat.le_of_ble_eq_true rfl) rfl (by unfold neS sK sE sP; rw [if_neg s_35_1, if_neg s_35_2, if_pos s_35_3])
    by_cases s_35_4 : ((m_s v) (7 + 5 * o + 0)) = 4
    · refine g_tin C 96 dX5_needsOf_35 (by rw [s_35_4]; decide) (by rw [s_35_4]; decide) (by rw [s_35_4]; rfl) rfl ?_
      refine g_iloadn C dX5_needsOf_96 0 rfl rfl ?_
      refine g_iconst C 2 dX5_needsOf_97 (by decide) ?_
      refine g_idiv C dX5_needsOf_98 (by decide) ?_
      exact g_iret C () hr dX5_needsOf_99 (Nat.le_of_ble_eq_true rfl) (Nat.le_of_ble_eq_true rfl) rfl (by unfold neS sK sE sP; rw [if_neg s_35_1, if_neg s_35_2, if_neg s_35_3, if_pos s_35_4])
    by_cases s_35_5 : ((m_s v) (7 + 5 * o + 0)) = 5
    · refine g_tin C 100 dX5_needsOf_35 (by rw [s_35_5]; decide) (by rw [s_35_5]; decide) (by rw [s_35_5]; rfl) rfl ?_
      refine g_iloadn C dX5_needsOf_100 1 rfl rfl ?_
      refine g_iconst C 3 dX5_needsOf_101 (by decide) ?_
      refine g_iadd C dX5_needsOf_102 ?_
      exact g_iret C () hr dX5_needsOf_103 (Nat.le_of_ble_eq_true rfl) (Nat.le_of_ble_eq_true rfl) rfl (by unfold neS sK sE sP; rw [if_neg s_35_1, if_neg s_35_2, if_neg s_35_3, if_neg s_35_4, if_pos s_35_5])
    have ns_35_1 := lv_neT s_35_1 (a := 1) (by decide)
    have ns_35_2 := lv_neT s_35_2 (a := 2) (by decide)
    have ns_35_3 := lv_neT s_35_3 (a := 3) (by decide)
    have ns_35_4 := lv_neT s_35_4 (a := 4) (by decide)
    have ns_35_5 := lv_neT s_35_5 (a := 5) (by decide)
    refine g_tout C 104 dX5_needsOf_35 (by omega) rfl ?_
    refine g_iloadn C dX5_needsOf_104 1 rfl rfl ?_
    exact g_iret C () hr dX5_needsOf_105 (Nat.le_of_ble_eq_true rfl) (Nat.le_of_ble_eq_true rfl) rfl (by unfold neS sK sE sP; rw [if_neg s_35_1, if_neg s_35_2, if_neg s_35_3, if_neg s_35_4, if_neg s_35_5])
  · refine g_iconst C 0 dX5_needsOf_23 (by decide) ?_
    refine g_goto C 28 dX5_needsOf_24 rfl ?_
    refine g_topci (haS (m_s v) o) (by unfold haS sE; rw [if_pos c_20]) ?_
    refine g_istoren C [(3, .int (haS (m_s v) o)), (2, .int ((m_s v) (7 + 5 * o + 2))), (0, .ref (a 0)), (1, .int (nI o))] dX5_needsOf_28 rfl (by decide) rfl ?_
    refine g_aloadn C dX5_needsOf_29 2 rfl rfl ?_
    refine g_iloadn C dX5_needsOf_30 3 rfl rfl ?_
    refine g_iconst C 0 dX5_needsOf_31 (by decide) ?_
    refine g_callAi C (rd_V C (k_X5_its l D q tt a v o 0 (by first | assumption | omega) (by first | assumption | omega)) gX5_needsOf_X5_its rfl rfl rfl 2 ok_X5_its rfl 0 rfl rfl (rest := []) rfl rfl (Nat.le_of_ble_eq_true rfl) dX5_needsOf_32 ⟨(Nat.le_of_ble_eq_true rfl), (Nat.le_of_ble_eq_true rfl)⟩ ⟨(Nat.le_of_ble_eq_true rfl), (Nat.le_of_ble_eq_true rfl)⟩) (fun r_32 _ h_32 => ?_)
    obtain rfl := h_32
    by_cases s_35_1 : ((m_s v) (7 + 5 * o + 0)) = 1
    · refine g_tin C 68 dX5_needsOf_35 (by rw [s_35_1]; decide) (by rw [s_35_1]; decide) (by rw [s_35_1]; rfl) rfl ?_
      refine g_iloadn C dX5_needsOf_68 1 rfl rfl ?_
      refine g_aloadn C dX5_needsOf_69 2 rfl rfl ?_
      refine g_iloadn C dX5_needsOf_70 3 rfl rfl ?_
      refine g_iconst C 1 dX5_needsOf_71 (by decide) ?_
      refine g_callAi C (rd_V C (k_X5_its l D q tt a v o 1 (by first | assumption | omega) (by first | assumption | omega)) gX5_needsOf_X5_its rfl rfl rfl 2 ok_X5_its rfl 0 rfl rfl (rest := [.int ((m_s v) (7 + 5 * o + 2))]) rfl rfl (Nat.le_of_ble_eq_true rfl) dX5_needsOf_72 ⟨(Nat.le_of_ble_eq_true rfl), (Nat.le_of_ble_eq_true rfl)⟩ ⟨(Nat.le_of_ble_eq_true rfl), (Nat.le_of_ble_eq_true rfl)⟩) (fun r_72 _ h_72 => ?_)
      obtain rfl := h_72
      refine g_bipush C 10 dX5_needsOf_75 (by decide) ?_
      refine g_idiv C dX5_needsOf_77 (by decide) ?_
      refine g_isub C dX5_needsOf_78 ?_
      exact g_iret C () hr dX5_needsOf_79 (Nat.le_of_ble_eq_true rfl) (Nat.le_of_ble_eq_true rfl) rfl (by unfold neS sK sE sP; rw [if_pos s_35_1])
    by_cases s_35_2 : ((m_s v) (7 + 5 * o + 0)) = 2
    · refine g_tin C 80 dX5_needsOf_35 (by rw [s_35_2]; decide) (by rw [s_35_2]; decide) (by rw [s_35_2]; rfl) rfl ?_
      refine g_iloadn C dX5_needsOf_80 0 rfl rfl ?_
      exact g_iret C () hr dX5_needsOf_81 (Nat.le_of_ble_eq_true rfl) (Nat.le_of_ble_eq_true rfl) rfl (by unfold neS sK sE sP; rw [if_neg s_35_1, if_pos s_35_2])
    by_cases s_35_3 : ((m_s v) (7 + 5 * o + 0)) = 3
    · refine g_tin C 82 dX5_needsOf_35 (by rw [s_35_3]; decide) (by rw [s_35_3]; decide) (by rw [s_35_3]; rfl) rfl ?_
      refine g_iloadn C dX5_needsOf_82 1 rfl rfl ?_
      refine g_aloadn C dX5_needsOf_83 2 rfl rfl ?_
      refine g_iloadn C dX5_needsOf_84 3 rfl rfl ?_
      refine g_iconst C 1 dX5_needsOf_85 (by decide) ?_
      refine g_callAi C (rd_V C (k_X5_its l D q tt a v o 1 (by first | assumption | omega) (by first | assumption | omega)) gX5_needsOf_X5_its rfl rfl rfl 2 ok_X5_its rfl 0 rfl rfl (rest := [.int ((m_s v) (7 + 5 * o + 2))]) rfl rfl (Nat.le_of_ble_eq_true rfl) dX5_needsOf_86 ⟨(Nat.le_of_ble_eq_true rfl), (Nat.le_of_ble_eq_true rfl)⟩ ⟨(Nat.le_of_ble_eq_true rfl), (Nat.le_of_ble_eq_true rfl)⟩) (fun r_86 _ h_86 => ?_)
      obtain rfl := h_86
      refine g_bipush C 10 dX5_needsOf_89 (by decide) ?_
      refine g_idiv C dX5_needsOf_91 (by decide) ?_
      refine g_isub C dX5_needsOf_92 ?_
      refine g_iconst C 2 dX5_needsOf_93 (by decide) ?_
      refine g_iadd C dX5_needsOf_94 ?_
      exact g_iret C () hr dX5_needsOf_95 (Nat.le_of_ble_eq_true rfl) (Nat.le_of_ble_eq_true rfl) rfl (by unfold neS sK sE sP; rw [if_neg s_35_1, if_neg s_35_2, if_pos s_35_3])
    by_cases s_35_4 : ((m_s v) (7 + 5 * o + 0)) = 4
    · refine g_tin C 96 dX5_needsOf_35 (by rw [s_35_4]; decide) (by rw [s_35_4]; decide) (by rw [s_35_4]; rfl) rfl ?_
      refine g_iloadn C dX5_needsOf_96 0 rfl rfl ?_
      refine g_iconst C 2 dX5_needsOf_97 (by decide) ?_
      refine g_idiv C dX5_needsOf_98 (by decide) ?_
      exact g_iret C () hr dX5_needsOf_99 (Nat.le_of_ble_eq_true rfl) (Nat.le_of_ble_eq_true rfl) rfl (by unfold neS sK sE sP; rw [if_neg s_35_1, if_neg s_35_2, if_neg s_35_3, if_pos s_35_4])
    by_cases s_35_5 : ((m_s v) (7 + 5 * o + 0)) = 5
    · refine g_tin C 100 dX5_needsOf_35 (by rw [s_35_5]; decide) (by rw [s_35_5]; decide) (by rw [s_35_5]; rfl) rfl ?_
      refine g_iloadn C dX5_needsOf_100 1 rfl rfl ?_
      refine g_iconst C 3 dX5_needsOf_101 (by decide) ?_
      refine g_iadd C dX5_needsOf_102 ?_
      exact g_iret C () hr dX5_needsOf_103 (Nat.le_of_ble_eq_true rfl) (Nat.le_of_ble_eq_true rfl) rfl (by unfold neS sK sE sP; rw [if_neg s_35_1, if_neg s_35_2, if_neg s_35_3, if_neg s_35_4, if_pos s_35_5])
    have ns_35_1 := lv_neT s_35_1 (a := 1) (by decide)
    have ns_35_2 := lv_neT s_35_2 (a := 2) (by decide)
    have ns_35_3 := lv_neT s_35_3 (a := 3) (by decide)
    have ns_35_4 := lv_neT s_35_4 (a := 4) (by decide)
    have ns_35_5 := lv_neT s_35_5 (a := 5) (by decide)
    refine g_tout C 104 dX5_needsOf_35 (by omega) rfl ?_
    refine g_iloadn C dX5_needsOf_104 1 rfl rfl ?_
    exact g_iret C () hr dX5_needsOf_105 (Nat.le_of_ble_eq_true rfl) (Nat.le_of_ble_eq_true rfl) rfl (by unfold neS sK sE sP; rw [if_neg s_35_1, if_neg s_35_2, if_neg s_35_3, if_neg s_35_4, if_neg s_35_5])

set_option maxRecDepth 100000 in
set_option maxHeartbeats 4000000 in
theorem k_X5_clappers (l : Launch) (D : va_G) (q : Nat → ClassId) (tt : Nat → Nat) (a : Nat → Nat) (v : MC) (N : Nat) (hG : Gd (m_s v) N) : MI l D q tt yX5_clappers wsX5_clappers ({ frames := 1, cells := 0, slots := 0, locals := 22 } : Room) [.ref (a 0)] (mw q a v) (fun (r : Int32) (u : Unit) => r = (clS (m_s v) N)) (fun (_ : Unit) => (mw q a v)) 0 0 := by
  refine MI.of RX5 [(0, .ref (a 0))] (by decide) rfl rfl (Nat.le_of_ble_eq_true rfl) rfl ?_
  intro p e s m args below meth c A C hr hnm
  have w_0 : ∀ w ∈ u_ws RX5 TX5 29, w ∈ wsX5_clappers := by decide +kernel
  have w_1 : Cond.fieldLink RX5 7 (TX5 0).1 (TX5 0).2.1 (TX5 0).2.2.1 ∈ wsX5_clappers := by decide +kernel
  have h8 := hG.le
  refine g_iconst C 0 dX5_clappers_0 (by decide) ?_
  refine g_istoren C [(1, .int 0), (0, .ref (a 0))] dX5_clappers_1 rfl (by decide) rfl ?_
  refine g_iconst C 0 dX5_clappers_2 (by decide) ?_
  refine g_istoren C [(2, .int 0), (1, .int 0), (0, .ref (a 0))] dX5_clappers_3 rfl (by decide) rfl ?_
  have J_4 : ∀ (fu : Nat) (i : Nat), N - i < fu → (i ≤ N) → G p l e ({ frames := 1, cells := 0, slots := 0, locals := 22 } : Room) s m args below meth c 3 D A (MQ below (va_Qi (fun (r : Int32) (u : Unit) => r = (clS (m_s v) N)) (Bw D A (fun (_ : Unit) => (mw q a v))) A) args s 0 0 A) 4 [(0, .ref (a 0)), (1, .int (nI (clN (m_s v) i))), (2, .int (nI i))] [] (mw q a v) 0 0 := by
    intro fu
    induction fu with
    | zero =>
      intro i hfu
      exact absurd hfu (Nat.not_lt_zero _)
    | succ fu ih =>
      intro i hfu hi
      refine g_iloadn C dX5_clappers_4 2 rfl rfl ?_
      refine g_aloadn C dX5_clappers_5 0 rfl rfl ?_
      refine g_get C fx5 w_0 0 0 (v := .ref (a 1)) rfl (by decide) w_1 rfl dX5_clappers_6 ?_
      refine g_iconst C 0 dX5_clappers_9 (by decide) ?_
      refine g_iald C 1 (0) (f := (m_s v)) rfl rfl (by omega) (by decide) dX5_clappers_10 ?_
      refine g_topci (nI N) (hG.n) ?_
      refine g_icmpN_ge C 31 (i) (N) dX5_clappers_11 rfl (by omega) (by omega) (fun c_11 => ?_) (fun c_11 => ?_)
      · refine g_iloadn C dX5_clappers_31 1 rfl rfl ?_
        exact g_iret C () hr dX5_clappers_32 (Nat.le_of_ble_eq_true rfl) (Nat.le_of_ble_eq_true rfl) rfl (by have e : i = N := (by omega); rw [e]; rfl)
      · refine g_iloadn C dX5_clappers_14 1 rfl rfl ?_
        refine g_aloadn C dX5_clappers_15 0 rfl rfl ?_
        refine g_iloadn C dX5_clappers_16 2 rfl rfl ?_
        refine g_iconst C 4 dX5_clappers_17 (by decide) ?_
        refine g_callAi C (rd_V C (k_X5_its l D q tt a v i 4 (by first | assumption | omega) (by first | assumption | omega)) gX5_clappers_X5_its rfl rfl rfl 2 ok_X5_its rfl 0 rfl rfl (rest := [.int (nI (clN (m_s v) i))]) rfl rfl (Nat.le_of_ble_eq_true rfl) dX5_clappers_18 ⟨(Nat.le_of_ble_eq_true rfl), (Nat.le_of_ble_eq_true rfl)⟩ ⟨(Nat.le_of_ble_eq_true rfl), (Nat.le_of_ble_eq_true rfl)⟩) (fun r_18 _ h_18 => ?_)
        obtain rfl := h_18
        refine g_iloadn C dX5_clappers_21 2 rfl rfl ?_
        refine g_ishl C dX5_clappers_22 ?_
        refine g_ior C dX5_clappers_23 ?_
        refine g_topci (nI (clN (m_s v) (i + 1))) (cl_step hG (by omega)) ?_
        refine g_istoren C [(1, .int (nI (clN (m_s v) (i + 1)))), (0, .ref (a 0)), (2, .int (nI i))] dX5_clappers_24 rfl (by decide) rfl ?_
        refine g_iinc C (nI (i + 1)) [(2, .int (nI (i + 1))), (1, .int (nI (clN (m_s v) (i + 1)))), (0, .ref (a 0))] dX5_clappers_25 2 rfl (nI_add i 1) (by decide) rfl ?_
        refine g_goto C 4 dX5_clappers_28 rfl ?_
        refine g_sub [2, 1, 0] (lv' := [(0, .ref (a 0)), (1, .int (nI (clN (m_s v) (i + 1)))), (2, .int (nI (i + 1)))]) rfl ?_
        exact ih ((i + 1)) (by omega) (by first | assumption | omega)
  refine g_sub [2, 1, 0] (lv' := [(0, .ref (a 0)), (1, .int 0), (2, .int 0)]) rfl ?_
  exact J_4 _ (0) (Nat.lt_succ_self _) (by first | assumption | omega)

set_option maxRecDepth 100000 in
set_option maxHeartbeats 4000000 in
theorem k_X5_within (l : Launch) (D : va_G) (q : Nat → ClassId) (tt : Nat → Nat) (x : Int32)  : MI l D q tt yX5_within wsX5_within ({ frames := 0, cells := 0, slots := 0, locals := 0 } : Room) [.int x] [] (fun (r : Int32) (u : Unit) => r = (wiS x)) (fun (_ : Unit) => []) 0 0 := by
  refine MI.of RX5 [(0, .int x)] (by decide) rfl rfl (Nat.le_of_ble_eq_true rfl) rfl ?_
  intro p e s m args below meth c A C hr hnm
  refine g_iloadn C dX5_within_0 0 rfl rfl ?_
  refine g_if_ge C 8 dX5_within_1 rfl (fun c_1 => ?_) (fun c_1 => ?_)
  · refine g_iloadn C dX5_within_8 0 rfl rfl ?_
    refine g_bipush C 99 dX5_within_9 (by decide) ?_
    refine g_icmp_le C 19 dX5_within_11 rfl (fun c_11 => ?_) (fun c_11 => ?_)
    · refine g_iloadn C dX5_within_19 0 rfl rfl ?_
      exact g_iret C () hr dX5_within_20 (Nat.le_of_ble_eq_true rfl) (Nat.le_of_ble_eq_true rfl) rfl (by unfold wiS; rw [if_neg (Int32.not_lt.mpr c_1), if_neg (Int32.not_lt.mpr c_11)])
    · refine g_bipush C 99 dX5_within_14 (by decide) ?_
      refine g_goto C 20 dX5_within_16 rfl ?_
      exact g_iret C () hr dX5_within_20 (Nat.le_of_ble_eq_true rfl) (Nat.le_of_ble_eq_true rfl) rfl (by unfold wiS; rw [if_neg (Int32.not_lt.mpr c_1), if_pos (Int32.not_le.mp c_11)])
  · refine g_iconst C 0 dX5_within_4 (by decide) ?_
    refine g_goto C 20 dX5_within_5 rfl ?_
    exact g_iret C () hr dX5_within_20 (Nat.le_of_ble_eq_true rfl) (Nat.le_of_ble_eq_true rfl) rfl (by unfold wiS; rw [if_pos (Int32.not_le.mp c_1)])

set_option maxRecDepth 100000 in
set_option maxHeartbeats 4000000 in
theorem k_X5_greatest (l : Launch) (D : va_G) (q : Nat → ClassId) (tt : Nat → Nat) (x : Int32) (y : Int32)  : MI l D q tt yX5_greatest wsX5_greatest ({ frames := 0, cells := 0, slots := 0, locals := 0 } : Room) [.int x, .int y] [] (fun (r : Int32) (u : Unit) => r = (if y < x then x else y)) (fun (_ : Unit) => []) 0 0 := by
  refine MI.of RX5 [(0, .int x), (1, .int y)] (by decide) rfl rfl (Nat.le_of_ble_eq_true rfl) rfl ?_
  intro p e s m args below meth c A C hr hnm
  refine g_iloadn C dX5_greatest_0 0 rfl rfl ?_
  refine g_iloadn C dX5_greatest_1 1 rfl rfl ?_
  refine g_icmp_le C 9 dX5_greatest_2 rfl (fun c_2 => ?_) (fun c_2 => ?_)
  · refine g_iloadn C dX5_greatest_9 1 rfl rfl ?_
    exact g_iret C () hr dX5_greatest_10 (Nat.le_of_ble_eq_true rfl) (Nat.le_of_ble_eq_true rfl) rfl (by rw [if_neg (Int32.not_lt.mpr c_2)])
  · refine g_iloadn C dX5_greatest_5 0 rfl rfl ?_
    refine g_goto C 10 dX5_greatest_6 rfl ?_
    exact g_iret C () hr dX5_greatest_10 (Nat.le_of_ble_eq_true rfl) (Nat.le_of_ble_eq_true rfl) rfl (by rw [if_pos (Int32.not_le.mp c_2)])

