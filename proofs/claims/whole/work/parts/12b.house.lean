set_option maxRecDepth 100000 in
set_option maxHeartbeats 4000000 in
theorem k_X0_loud (l : Launch) (D : va_G) (q : Nat → ClassId) (tt : Nat → Nat) (a : Nat → Nat) (h : HC) (S : Nat → Int32) (N : Nat) (o : Nat) (hG : Gd S N) (rS : HR S N h) (ho : o < N) : MI l D q tt yX0_loud wsX0_loud ({ frames := 0, cells := 0, slots := 0, locals := 0 } : Room) [.ref (a 0), .int (nI o)] (hw q a h) (fun (r : Int32) (u : Unit) => r = (ldS S o)) (fun (_ : Unit) => (hw q a h)) 0 0 := by
  refine MI.of RX0 [(0, .ref (a 0)), (1, .int (nI o))] (by decide) rfl rfl (Nat.le_of_ble_eq_true rfl) rfl ?_
  intro p e s m args below meth c A C hr hnm
  have w_0 : ∀ w ∈ u_ws RX0 TX0 11, w ∈ wsX0_loud := by decide +kernel
  have w_1 : Cond.fieldLink RX0 21 (TX0 3).1 (TX0 3).2.1 (TX0 3).2.2.1 ∈ wsX0_loud := by decide +kernel
  have w_2 : Cond.fieldLink RX0 15 (TX0 1).1 (TX0 1).2.1 (TX0 1).2.2.1 ∈ wsX0_loud := by decide +kernel
  have w_3 : Cond.fieldLink RX0 9 (TX0 0).1 (TX0 0).2.1 (TX0 0).2.2.1 ∈ wsX0_loud := by decide +kernel
  have w_4 : Cond.fieldLink RX0 18 (TX0 2).1 (TX0 2).2.1 (TX0 2).2.2.1 ∈ wsX0_loud := by decide +kernel
  have h8 := hG.le
  refine g_iconst C 1 dX0_loud_0 (by decide) ?_
  refine g_aloadn C dX0_loud_1 0 rfl rfl ?_
  refine g_get C fx0 w_0 0 3 (v := .ref (a 4)) rfl (by decide) w_1 rfl dX0_loud_2 ?_
  refine g_iloadn C dX0_loud_5 1 rfl rfl ?_
  refine g_iald C 4 (o) (f := (hE h)) rfl rfl (by omega) (by decide) dX0_loud_6 ?_
  refine g_topci (sE S o) (rS.E (by omega)) ?_
  refine g_iconst C 3 dX0_loud_7 (by decide) ?_
  refine g_idiv C dX0_loud_8 (by decide) ?_
  refine g_iadd C dX0_loud_9 ?_
  refine g_istoren C [(2, .int (1 + ((sE S o) / 3))), (0, .ref (a 0)), (1, .int (nI o))] dX0_loud_10 rfl (by decide) rfl ?_
  refine g_aloadn C dX0_loud_11 1 rfl rfl ?_
  refine g_get C fx0 w_0 0 1 (v := .ref (a 2)) rfl (by decide) w_2 rfl dX0_loud_12 ?_
  refine g_iloadn C dX0_loud_15 2 rfl rfl ?_
  refine g_iald C 2 (o) (f := (hK h)) rfl rfl (by omega) (by decide) dX0_loud_16 ?_
  refine g_topci (sK S o) (rS.K (by omega)) ?_
  by_cases s_17_1 : (sK S o) = 1
  · refine g_tin C 52 dX0_loud_17 (by rw [s_17_1]; decide) (by rw [s_17_1]; decide) (by rw [s_17_1]; rfl) rfl ?_
    refine g_iloadn C dX0_loud_52 0 rfl rfl ?_
    refine g_iconst C 1 dX0_loud_53 (by decide) ?_
    refine g_iadd C dX0_loud_54 ?_
    exact g_iret C () hr dX0_loud_55 (Nat.le_of_ble_eq_true rfl) (Nat.le_of_ble_eq_true rfl) rfl (by unfold ldS gsS; rw [if_pos s_17_1])
  by_cases s_17_2 : (sK S o) = 2
  · refine g_tin C 62 dX0_loud_17 (by rw [s_17_2]; decide) (by rw [s_17_2]; decide) (by rw [s_17_2]; rfl) rfl ?_
    refine g_iloadn C dX0_loud_62 0 rfl rfl ?_
    refine g_aloadn C dX0_loud_63 1 rfl rfl ?_
    refine g_get C fx0 w_0 0 0 (v := .ref (a 1)) rfl (by decide) w_3 rfl dX0_loud_64 ?_
    refine g_iconst C 0 dX0_loud_67 (by decide) ?_
    refine g_iald C 1 (0) (f := (hL h)) rfl rfl (by omega) (by decide) dX0_loud_68 ?_
    refine g_topci (S 3) (rS.1 0 (by omega)) ?_
    refine g_iadd C dX0_loud_69 ?_
    exact g_iret C () hr dX0_loud_70 (Nat.le_of_ble_eq_true rfl) (Nat.le_of_ble_eq_true rfl) rfl (by unfold ldS gsS; rw [if_neg s_17_1, if_pos s_17_2])
  by_cases s_17_3 : (sK S o) = 3
  · refine g_tin C 56 dX0_loud_17 (by rw [s_17_3]; decide) (by rw [s_17_3]; decide) (by rw [s_17_3]; rfl) rfl ?_
    refine g_iloadn C dX0_loud_56 0 rfl rfl ?_
    refine g_iconst C 1 dX0_loud_57 (by decide) ?_
    refine g_iadd C dX0_loud_58 ?_
    refine g_iconst C 2 dX0_loud_59 (by decide) ?_
    refine g_imul C dX0_loud_60 ?_
    exact g_iret C () hr dX0_loud_61 (Nat.le_of_ble_eq_true rfl) (Nat.le_of_ble_eq_true rfl) rfl (by unfold ldS gsS; rw [if_neg s_17_1, if_neg s_17_2, if_pos s_17_3]; exact Int32.mul_comm _ _)
  by_cases s_17_4 : (sK S o) = 4
  · refine g_tin C 71 dX0_loud_17 (by rw [s_17_4]; decide) (by rw [s_17_4]; decide) (by rw [s_17_4]; rfl) rfl ?_
    refine g_iloadn C dX0_loud_71 0 rfl rfl ?_
    refine g_aloadn C dX0_loud_72 1 rfl rfl ?_
    refine g_get C fx0 w_0 0 0 (v := .ref (a 1)) rfl (by decide) w_3 rfl dX0_loud_73 ?_
    refine g_iconst C 0 dX0_loud_76 (by decide) ?_
    refine g_iald C 1 (0) (f := (hL h)) rfl rfl (by omega) (by decide) dX0_loud_77 ?_
    refine g_topci (S 3) (rS.1 0 (by omega)) ?_
    refine g_iadd C dX0_loud_78 ?_
    refine g_aloadn C dX0_loud_79 1 rfl rfl ?_
    refine g_get C fx0 w_0 0 2 (v := .ref (a 3)) rfl (by decide) w_4 rfl dX0_loud_80 ?_
    refine g_iloadn C dX0_loud_83 2 rfl rfl ?_
    refine g_iald C 3 (o) (f := (hP h)) rfl rfl (by omega) (by decide) dX0_loud_84 ?_
    refine g_topci (sP S o) (rS.P (by omega)) ?_
    refine g_bipush C 10 dX0_loud_85 (by decide) ?_
    refine g_idiv C dX0_loud_87 (by decide) ?_
    refine g_iadd C dX0_loud_88 ?_
    exact g_iret C () hr dX0_loud_89 (Nat.le_of_ble_eq_true rfl) (Nat.le_of_ble_eq_true rfl) rfl (by unfold ldS gsS; rw [if_neg s_17_1, if_neg s_17_2, if_neg s_17_3, if_pos s_17_4])
  by_cases s_17_5 : (sK S o) = 5
  · refine g_tin C 90 dX0_loud_17 (by rw [s_17_5]; decide) (by rw [s_17_5]; decide) (by rw [s_17_5]; rfl) rfl ?_
    refine g_iconst C 0 dX0_loud_90 (by decide) ?_
    refine g_iloadn C dX0_loud_91 0 rfl rfl ?_
    refine g_isub C dX0_loud_92 ?_
    exact g_iret C () hr dX0_loud_93 (Nat.le_of_ble_eq_true rfl) (Nat.le_of_ble_eq_true rfl) rfl (by unfold ldS gsS; rw [if_neg s_17_1, if_neg s_17_2, if_neg s_17_3, if_neg s_17_4, if_pos s_17_5])
  have ns_17_1 := lv_neT s_17_1 (a := 1) (by decide)
  have ns_17_2 := lv_neT s_17_2 (a := 2) (by decide)
  have ns_17_3 := lv_neT s_17_3 (a := 3) (by decide)
  have ns_17_4 := lv_neT s_17_4 (a := 4) (by decide)
  have ns_17_5 := lv_neT s_17_5 (a := 5) (by decide)
  refine g_tout C 94 dX0_loud_17 (by omega) rfl ?_
  refine g_iloadn C dX0_loud_94 0 rfl rfl ?_
  exact g_iret C () hr dX0_loud_95 (Nat.le_of_ble_eq_true rfl) (Nat.le_of_ble_eq_true rfl) rfl (by unfold ldS gsS; rw [if_neg s_17_1, if_neg s_17_2, if_neg s_17_3, if_neg s_17_4, if_neg s_17_5])

set_option maxRecDepth 100000 in
set_option maxHeartbeats 4000000 in
theorem k_X0_loudOfAll (l : Launch) (D : va_G) (q : Nat → ClassId) (tt : Nat → Nat) (a : Nat → Nat) (h : HC) (S : Nat → Int32) (N : Nat) (hG : Gd S N) (rS : HR S N h) : MI l D q tt yX0_loudOfAll wsX0_loudOfAll ({ frames := 1, cells := 0, slots := 0, locals := 22 } : Room) [.ref (a 0)] (hw q a h) (fun (r : Int32) (u : Unit) => r = (sumI (laT S) N)) (fun (_ : Unit) => (hw q a h)) 0 0 := by
  refine MI.of RX0 [(0, .ref (a 0))] (by decide) rfl rfl (Nat.le_of_ble_eq_true rfl) rfl ?_
  intro p e s m args below meth c A C hr hnm
  have w_0 : ∀ w ∈ u_ws RX0 TX0 11, w ∈ wsX0_loudOfAll := by decide +kernel
  have w_1 : Cond.fieldLink RX0 49 (TX0 5).1 (TX0 5).2.1 (TX0 5).2.2.1 ∈ wsX0_loudOfAll := by decide +kernel
  have h8 := hG.le
  refine g_iconst C 0 dX0_loudOfAll_0 (by decide) ?_
  refine g_istoren C [(1, .int 0), (0, .ref (a 0))] dX0_loudOfAll_1 rfl (by decide) rfl ?_
  refine g_iconst C 0 dX0_loudOfAll_2 (by decide) ?_
  refine g_istoren C [(2, .int 0), (1, .int 0), (0, .ref (a 0))] dX0_loudOfAll_3 rfl (by decide) rfl ?_
  have J_4 : ∀ (fu : Nat) (i : Nat), N - i < fu → (i ≤ N) → G p l e ({ frames := 1, cells := 0, slots := 0, locals := 22 } : Room) s m args below meth c 3 D A (MQ below (va_Qi (fun (r : Int32) (u : Unit) => r = (sumI (laT S) N)) (Bw D A (fun (_ : Unit) => (hw q a h))) A) args s 0 0 A) 4 [(0, .ref (a 0)), (1, .int (sumI (laT S) i)), (2, .int (nI i))] [] (hw q a h) 0 0 := by
    intro fu
    induction fu with
    | zero =>
      intro i hfu
      exact absurd hfu (Nat.not_lt_zero _)
    | succ fu ih =>
      intro i hfu hi
      refine g_iloadn C dX0_loudOfAll_4 2 rfl rfl ?_
      refine g_aloadn C dX0_loudOfAll_5 0 rfl rfl ?_
      refine g_get C fx0 w_0 0 5 (v := .int (hN h)) rfl (by decide) w_1 rfl dX0_loudOfAll_6 ?_
      refine g_topci (nI N) (rS.n hG) ?_
      refine g_icmpN_ge C 34 (i) (N) dX0_loudOfAll_9 rfl (by omega) (by omega) (fun c_9 => ?_) (fun c_9 => ?_)
      · refine g_iloadn C dX0_loudOfAll_34 1 rfl rfl ?_
        exact g_iret C () hr dX0_loudOfAll_35 (Nat.le_of_ble_eq_true rfl) (Nat.le_of_ble_eq_true rfl) rfl (by have e : i = N := (by omega); rw [e])
      · refine g_aloadn C dX0_loudOfAll_12 0 rfl rfl ?_
        refine g_iloadn C dX0_loudOfAll_13 2 rfl rfl ?_
        refine g_callAi C (rd_V C (k_X0_doesClap l D q tt a h S N i (by first | assumption | omega) (by first | assumption | omega) (by first | assumption | omega)) gX0_loudOfAll_X0_doesClap rfl rfl rfl 1 ok_X0_doesClap rfl 0 rfl rfl (rest := []) rfl rfl (Nat.le_of_ble_eq_true rfl) dX0_loudOfAll_14 ⟨(Nat.le_of_ble_eq_true rfl), (Nat.le_of_ble_eq_true rfl)⟩ ⟨(Nat.le_of_ble_eq_true rfl), (Nat.le_of_ble_eq_true rfl)⟩) (fun r_14 _ h_14 => ?_)
        obtain rfl := h_14
        refine g_ifeqE C 28 dX0_loudOfAll_17 rfl rfl (fun c_17 => ?_) (fun c_17 => ?_)
        · refine g_lvc 1 (lv' := [(0, .ref (a 0)), (1, .int (sumI (laT S) (i + 1))), (2, .int (nI i))]) (by rw [show (sumI (laT S) i) = (sumI (laT S) (i + 1)) from by show _ = sumI _ i + laT S i; unfold laT; rw [if_neg c_17]; simp]) ?_
          refine g_iinc C (nI (i + 1)) [(2, .int (nI (i + 1))), (0, .ref (a 0)), (1, .int (sumI (laT S) (i + 1)))] dX0_loudOfAll_28 2 rfl (nI_add i 1) (by decide) rfl ?_
          refine g_goto C 4 dX0_loudOfAll_31 rfl ?_
          refine g_sub [1, 2, 0] (lv' := [(0, .ref (a 0)), (1, .int (sumI (laT S) (i + 1))), (2, .int (nI (i + 1)))]) rfl ?_
          exact ih ((i + 1)) (by omega) (by first | assumption | omega)
        · refine g_iloadn C dX0_loudOfAll_20 1 rfl rfl ?_
          refine g_aloadn C dX0_loudOfAll_21 0 rfl rfl ?_
          refine g_iloadn C dX0_loudOfAll_22 2 rfl rfl ?_
          refine g_callAi C (rd_V C (k_X0_loud l D q tt a h S N i (by first | assumption | omega) (by first | assumption | omega) (by first | assumption | omega)) gX0_loudOfAll_X0_loud rfl rfl rfl 1 ok_X0_loud rfl 0 rfl rfl (rest := [.int (sumI (laT S) i)]) rfl rfl (Nat.le_of_ble_eq_true rfl) dX0_loudOfAll_23 ⟨(Nat.le_of_ble_eq_true rfl), (Nat.le_of_ble_eq_true rfl)⟩ ⟨(Nat.le_of_ble_eq_true rfl), (Nat.le_of_ble_eq_true rfl)⟩) (fun r_23 _ h_23 => ?_)
          obtain rfl := h_23
          refine g_iadd C dX0_loudOfAll_26 ?_
          refine g_topci (sumI (laT S) (i + 1)) (by show _ = sumI _ i + laT S i; unfold laT; rw [if_pos c_17]) ?_
          refine g_istoren C [(1, .int (sumI (laT S) (i + 1))), (0, .ref (a 0)), (2, .int (nI i))] dX0_loudOfAll_27 rfl (by decide) rfl ?_
          refine g_iinc C (nI (i + 1)) [(2, .int (nI (i + 1))), (1, .int (sumI (laT S) (i + 1))), (0, .ref (a 0))] dX0_loudOfAll_28 2 rfl (nI_add i 1) (by decide) rfl ?_
          refine g_goto C 4 dX0_loudOfAll_31 rfl ?_
          refine g_sub [2, 1, 0] (lv' := [(0, .ref (a 0)), (1, .int (sumI (laT S) (i + 1))), (2, .int (nI (i + 1)))]) rfl ?_
          exact ih ((i + 1)) (by omega) (by first | assumption | omega)
  refine g_sub [2, 1, 0] (lv' := [(0, .ref (a 0)), (1, .int 0), (2, .int 0)]) rfl ?_
  exact J_4 _ (0) (Nat.lt_succ_self _) (by first | assumption | omega)

set_option maxRecDepth 100000 in
set_option maxHeartbeats 4000000 in
theorem k_X0_isCued (l : Launch) (D : va_G) (q : Nat → ClassId) (tt : Nat → Nat) (a : Nat → Nat) (h : HC) (S : Nat → Int32) (N : Nat) (hG : Gd S N) (e4 : hL h 1 = S 4) (em : hM h = S 1) : MI l D q tt yX0_isCued wsX0_isCued ({ frames := 0, cells := 0, slots := 0, locals := 0 } : Room) [.ref (a 0)] (hw q a h) (fun (r : Int32) (u : Unit) => r = (bI (S 1 - S 1 / S 4 * S 4 = 0))) (fun (_ : Unit) => (hw q a h)) 0 0 := by
  refine MI.of RX0 [(0, .ref (a 0))] (by decide) rfl rfl (Nat.le_of_ble_eq_true rfl) rfl ?_
  intro p e s m args below meth c A C hr hnm
  have w_0 : ∀ w ∈ u_ws RX0 TX0 11, w ∈ wsX0_isCued := by decide +kernel
  have w_1 : Cond.fieldLink RX0 9 (TX0 0).1 (TX0 0).2.1 (TX0 0).2.2.1 ∈ wsX0_isCued := by decide +kernel
  have w_2 : Cond.fieldLink RX0 55 (TX0 7).1 (TX0 7).2.1 (TX0 7).2.2.1 ∈ wsX0_isCued := by decide +kernel
  refine g_aloadn C dX0_isCued_0 0 rfl rfl ?_
  refine g_get C fx0 w_0 0 0 (v := .ref (a 1)) rfl (by decide) w_1 rfl dX0_isCued_1 ?_
  refine g_iconst C 1 dX0_isCued_4 (by decide) ?_
  refine g_iald C 1 (1) (f := (hL h)) rfl rfl (by omega) (by decide) dX0_isCued_5 ?_
  refine g_topci (S 4) (e4) ?_
  refine g_istoren C [(1, .int (S 4)), (0, .ref (a 0))] dX0_isCued_6 rfl (by decide) rfl ?_
  refine g_iloadn C dX0_isCued_7 0 rfl rfl ?_
  refine g_if_eq C 24 dX0_isCued_8 rfl (fun c_8 => ?_) (fun c_8 => ?_)
  · refine g_iconst C 0 dX0_isCued_24 (by decide) ?_
    exact g_zret C () hr rfl dX0_isCued_25 (Nat.le_of_ble_eq_true rfl) (Nat.le_of_ble_eq_true rfl) rfl (absurd c_8 hG.cue)
  · refine g_aloadn C dX0_isCued_11 1 rfl rfl ?_
    refine g_get C fx0 w_0 0 7 (v := .int (hM h)) rfl (by decide) w_2 rfl dX0_isCued_12 ?_
    refine g_topci (S 1) (em) ?_
    refine g_iloadn C dX0_isCued_15 0 rfl rfl ?_
    refine g_irem C dX0_isCued_16 hG.cue ?_
    refine g_if_ne C 24 dX0_isCued_17 rfl (fun c_17 => ?_) (fun c_17 => ?_)
    · refine g_iconst C 0 dX0_isCued_24 (by decide) ?_
      exact g_zret C () hr rfl dX0_isCued_25 (Nat.le_of_ble_eq_true rfl) (Nat.le_of_ble_eq_true rfl) rfl ((bI_n c_17).symm)
    · refine g_iconst C 1 dX0_isCued_20 (by decide) ?_
      refine g_goto C 25 dX0_isCued_21 rfl ?_
      exact g_zret C () hr rfl dX0_isCued_25 (Nat.le_of_ble_eq_true rfl) (Nat.le_of_ble_eq_true rfl) rfl ((bI_t c_17).symm)

set_option maxRecDepth 100000 in
set_option maxHeartbeats 4000000 in
theorem k_X0_needs (l : Launch) (D : va_G) (q : Nat → ClassId) (tt : Nat → Nat) (a : Nat → Nat) (h : HC) (S : Nat → Int32) (N : Nat) (pr : Nat → Int32) (o : Nat) (hG : Gd S N) (rS : HR S N h) (ho : o < N) (hpo : pr o = sP S o) : MI l D q tt yX0_needs wsX0_needs ({ frames := 1, cells := 0, slots := 0, locals := 21 } : Room) [.ref (a 0), .int (nI o)] (hw q a ((hL h), (hK h), pr, (hE h), (hR h), (hN h), (hC h), (hM h), (hZ h), (hJ h), (hH h))) (fun (r : Int32) (u : Unit) => r = (neS S o)) (fun (_ : Unit) => (hw q a ((hL h), (hK h), pr, (hE h), (hR h), (hN h), (hC h), (hM h), (hZ h), (hJ h), (hH h)))) 0 0 := by
  refine MI.of RX0 [(0, .ref (a 0)), (1, .int (nI o))] (by decide) rfl rfl (Nat.le_of_ble_eq_true rfl) rfl ?_
  intro p e s m args below meth c A C hr hnm
  have w_0 : ∀ w ∈ u_ws RX0 TX0 11, w ∈ wsX0_needs := by decide +kernel
  have w_1 : Cond.fieldLink RX0 21 (TX0 3).1 (TX0 3).2.1 (TX0 3).2.2.1 ∈ wsX0_needs := by decide +kernel
  have w_2 : Cond.fieldLink RX0 18 (TX0 2).1 (TX0 2).2.1 (TX0 2).2.2.1 ∈ wsX0_needs := by decide +kernel
  have w_3 : Cond.fieldLink RX0 15 (TX0 1).1 (TX0 1).2.1 (TX0 1).2.2.1 ∈ wsX0_needs := by decide +kernel
  have h8 := hG.le
  refine g_aloadn C dX0_needs_0 0 rfl rfl ?_
  refine g_get C fx0 w_0 0 3 (v := .ref (a 4)) rfl (by decide) w_1 rfl dX0_needs_1 ?_
  refine g_iloadn C dX0_needs_4 1 rfl rfl ?_
  refine g_iald C 4 (o) (f := (hE h)) rfl rfl (by omega) (by decide) dX0_needs_5 ?_
  refine g_topci (sE S o) (rS.E (by omega)) ?_
  refine g_istoren C [(2, .int (sE S o)), (0, .ref (a 0)), (1, .int (nI o))] dX0_needs_6 rfl (by decide) rfl ?_
  refine g_iloadn C dX0_needs_7 0 rfl rfl ?_
  refine g_aloadn C dX0_needs_8 1 rfl rfl ?_
  refine g_get C fx0 w_0 0 2 (v := .ref (a 3)) rfl (by decide) w_2 rfl dX0_needs_9 ?_
  refine g_iloadn C dX0_needs_12 2 rfl rfl ?_
  refine g_iald C 3 (o) (f := pr) rfl rfl (by omega) (by decide) dX0_needs_13 ?_
  refine g_topci (sP S o) (hpo) ?_
  refine g_bipush C 10 dX0_needs_14 (by decide) ?_
  refine g_idiv C dX0_needs_16 (by decide) ?_
  refine g_isub C dX0_needs_17 ?_
  refine g_istoren C [(3, .int ((sE S o) - ((sP S o) / 10))), (2, .int (sE S o)), (0, .ref (a 0)), (1, .int (nI o))] dX0_needs_18 rfl (by decide) rfl ?_
  refine g_aloadn C dX0_needs_19 2 rfl rfl ?_
  refine g_callAi C (rd_V C (k_X0_isCued l D q tt a ((hL h), (hK h), pr, (hE h), (hR h), (hN h), (hC h), (hM h), (hZ h), (hJ h), (hH h)) S N (by first | assumption | omega) (rS.1 1 (by omega)) rS.m) gX0_needs_X0_isCued rfl rfl rfl 0 ok_X0_isCued rfl 0 rfl rfl (rest := []) rfl rfl (Nat.le_of_ble_eq_true rfl) dX0_needs_20 ⟨(Nat.le_of_ble_eq_true rfl), (Nat.le_of_ble_eq_true rfl)⟩ ⟨(Nat.le_of_ble_eq_true rfl), (Nat.le_of_ble_eq_true rfl)⟩) (fun r_20 _ h_20 => ?_)
  obtain rfl := h_20
  refine g_topci (bI (S 1 - S 1 / S 4 * S 4 = 0)) rfl ?_
  refine g_ifeqE C 30 dX0_needs_23 rfl rfl (fun c_23 => ?_) (fun c_23 => ?_)
  · refine g_iloadn C dX0_needs_30 1 rfl rfl ?_
    refine g_topci (haS S o) (by unfold haS; rw [if_neg c_23]) ?_
    refine g_istore C [(4, .int (haS S o)), (3, .int ((sE S o) - ((sP S o) / 10))), (2, .int (sE S o)), (0, .ref (a 0)), (1, .int (nI o))] dX0_needs_31 (by decide) rfl ?_
    refine g_aloadn C dX0_needs_33 3 rfl rfl ?_
    refine g_get C fx0 w_0 0 1 (v := .ref (a 2)) rfl (by decide) w_3 rfl dX0_needs_34 ?_
    refine g_iloadn C dX0_needs_37 4 rfl rfl ?_
    refine g_iald C 2 (o) (f := (hK h)) rfl rfl (by omega) (by decide) dX0_needs_38 ?_
    refine g_topci (sK S o) (rS.K (by omega)) ?_
    by_cases s_39_1 : (sK S o) = 1
    · refine g_tin C 72 dX0_needs_39 (by rw [s_39_1]; decide) (by rw [s_39_1]; decide) (by rw [s_39_1]; rfl) rfl ?_
      refine g_iloadn C dX0_needs_72 1 rfl rfl ?_
      exact g_iret C () hr dX0_needs_73 (Nat.le_of_ble_eq_true rfl) (Nat.le_of_ble_eq_true rfl) rfl (by unfold neS; rw [if_pos s_39_1])
    by_cases s_39_2 : (sK S o) = 2
    · refine g_tin C 78 dX0_needs_39 (by rw [s_39_2]; decide) (by rw [s_39_2]; decide) (by rw [s_39_2]; rfl) rfl ?_
      refine g_iload C dX0_needs_78 0 rfl ?_
      exact g_iret C () hr dX0_needs_80 (Nat.le_of_ble_eq_true rfl) (Nat.le_of_ble_eq_true rfl) rfl (by unfold neS; rw [if_neg s_39_1, if_pos s_39_2])
    by_cases s_39_3 : (sK S o) = 3
    · refine g_tin C 74 dX0_needs_39 (by rw [s_39_3]; decide) (by rw [s_39_3]; decide) (by rw [s_39_3]; rfl) rfl ?_
      refine g_iloadn C dX0_needs_74 1 rfl rfl ?_
      refine g_iconst C 2 dX0_needs_75 (by decide) ?_
      refine g_iadd C dX0_needs_76 ?_
      exact g_iret C () hr dX0_needs_77 (Nat.le_of_ble_eq_true rfl) (Nat.le_of_ble_eq_true rfl) rfl (by unfold neS; rw [if_neg s_39_1, if_neg s_39_2, if_pos s_39_3])
    by_cases s_39_4 : (sK S o) = 4
    · refine g_tin C 81 dX0_needs_39 (by rw [s_39_4]; decide) (by rw [s_39_4]; decide) (by rw [s_39_4]; rfl) rfl ?_
      refine g_iload C dX0_needs_81 0 rfl ?_
      refine g_iconst C 2 dX0_needs_83 (by decide) ?_
      refine g_idiv C dX0_needs_84 (by decide) ?_
      exact g_iret C () hr dX0_needs_85 (Nat.le_of_ble_eq_true rfl) (Nat.le_of_ble_eq_true rfl) rfl (by unfold neS; rw [if_neg s_39_1, if_neg s_39_2, if_neg s_39_3, if_pos s_39_4])
    by_cases s_39_5 : (sK S o) = 5
    · refine g_tin C 86 dX0_needs_39 (by rw [s_39_5]; decide) (by rw [s_39_5]; decide) (by rw [s_39_5]; rfl) rfl ?_
      refine g_iloadn C dX0_needs_86 2 rfl rfl ?_
      refine g_iconst C 3 dX0_needs_87 (by decide) ?_
      refine g_iadd C dX0_needs_88 ?_
      exact g_iret C () hr dX0_needs_89 (Nat.le_of_ble_eq_true rfl) (Nat.le_of_ble_eq_true rfl) rfl (by unfold neS; rw [if_neg s_39_1, if_neg s_39_2, if_neg s_39_3, if_neg s_39_4, if_pos s_39_5])
    have ns_39_1 := lv_neT s_39_1 (a := 1) (by decide)
    have ns_39_2 := lv_neT s_39_2 (a := 2) (by decide)
    have ns_39_3 := lv_neT s_39_3 (a := 3) (by decide)
    have ns_39_4 := lv_neT s_39_4 (a := 4) (by decide)
    have ns_39_5 := lv_neT s_39_5 (a := 5) (by decide)
    refine g_tout C 90 dX0_needs_39 (by omega) rfl ?_
    refine g_iloadn C dX0_needs_90 2 rfl rfl ?_
    exact g_iret C () hr dX0_needs_91 (Nat.le_of_ble_eq_true rfl) (Nat.le_of_ble_eq_true rfl) rfl (by unfold neS; rw [if_neg s_39_1, if_neg s_39_2, if_neg s_39_3, if_neg s_39_4, if_neg s_39_5])
  · refine g_iconst C 0 dX0_needs_26 (by decide) ?_
    refine g_goto C 31 dX0_needs_27 rfl ?_
    refine g_topci (haS S o) (by unfold haS; rw [if_pos c_23]) ?_
    refine g_istore C [(4, .int (haS S o)), (3, .int ((sE S o) - ((sP S o) / 10))), (2, .int (sE S o)), (0, .ref (a 0)), (1, .int (nI o))] dX0_needs_31 (by decide) rfl ?_
    refine g_aloadn C dX0_needs_33 3 rfl rfl ?_
    refine g_get C fx0 w_0 0 1 (v := .ref (a 2)) rfl (by decide) w_3 rfl dX0_needs_34 ?_
    refine g_iloadn C dX0_needs_37 4 rfl rfl ?_
    refine g_iald C 2 (o) (f := (hK h)) rfl rfl (by omega) (by decide) dX0_needs_38 ?_
    refine g_topci (sK S o) (rS.K (by omega)) ?_
    by_cases s_39_1 : (sK S o) = 1
    · refine g_tin C 72 dX0_needs_39 (by rw [s_39_1]; decide) (by rw [s_39_1]; decide) (by rw [s_39_1]; rfl) rfl ?_
      refine g_iloadn C dX0_needs_72 1 rfl rfl ?_
      exact g_iret C () hr dX0_needs_73 (Nat.le_of_ble_eq_true rfl) (Nat.le_of_ble_eq_true rfl) rfl (by unfold neS; rw [if_pos s_39_1])
    by_cases s_39_2 : (sK S o) = 2
    · refine g_tin C 78 dX0_needs_39 (by rw [s_39_2]; decide) (by rw [s_39_2]; decide) (by rw [s_39_2]; rfl) rfl ?_
      refine g_iload C dX0_needs_78 0 rfl ?_
      exact g_iret C () hr dX0_needs_80 (Nat.le_of_ble_eq_true rfl) (Nat.le_of_ble_eq_true rfl) rfl (by unfold neS; rw [if_neg s_39_1, if_pos s_39_2])
    by_cases s_39_3 : (sK S o) = 3
    · refine g_tin C 74 dX0_needs_39 (by rw [s_39_3]; decide) (by rw [s_39_3]; decide) (by rw [s_39_3]; rfl) rfl ?_
      refine g_iloadn C dX0_needs_74 1 rfl rfl ?_
      refine g_iconst C 2 dX0_needs_75 (by decide) ?_
      refine g_iadd C dX0_needs_76 ?_
      exact g_iret C () hr dX0_needs_77 (Nat.le_of_ble_eq_true rfl) (Nat.le_of_ble_eq_true rfl) rfl (by unfold neS; rw [if_neg s_39_1, if_neg s_39_2, if_pos s_39_3])
    by_cases s_39_4 : (sK S o) = 4
    · refine g_tin C 81 dX0_needs_39 (by rw [s_39_4]; decide) (by rw [s_39_4]; decide) (by rw [s_39_4]; rfl) rfl ?_
      refine g_iload C dX0_needs_81 0 rfl ?_
      refine g_iconst C 2 dX0_needs_83 (by decide) ?_
      refine g_idiv C dX0_needs_84 (by decide) ?_
      exact g_iret C () hr dX0_needs_85 (Nat.le_of_ble_eq_true rfl) (Nat.le_of_ble_eq_true rfl) rfl (by unfold neS; rw [if_neg s_39_1, if_neg s_39_2, if_neg s_39_3, if_pos s_39_4])
    by_cases s_39_5 : (sK S o) = 5
    · refine g_tin C 86 dX0_needs_39 (by rw [s_39_5]; decide) (by rw [s_39_5]; decide) (by rw [s_39_5]; rfl) rfl ?_
      refine g_iloadn C dX0_needs_86 2 rfl rfl ?_
      refine g_iconst C 3 dX0_needs_87 (by decide) ?_
      refine g_iadd C dX0_needs_88 ?_
      exact g_iret C () hr dX0_needs_89 (Nat.le_of_ble_eq_true rfl) (Nat.le_of_ble_eq_true rfl) rfl (by unfold neS; rw [if_neg s_39_1, if_neg s_39_2, if_neg s_39_3, if_neg s_39_4, if_pos s_39_5])
    have ns_39_1 := lv_neT s_39_1 (a := 1) (by decide)
    have ns_39_2 := lv_neT s_39_2 (a := 2) (by decide)
    have ns_39_3 := lv_neT s_39_3 (a := 3) (by decide)
    have ns_39_4 := lv_neT s_39_4 (a := 4) (by decide)
    have ns_39_5 := lv_neT s_39_5 (a := 5) (by decide)
    refine g_tout C 90 dX0_needs_39 (by omega) rfl ?_
    refine g_iloadn C dX0_needs_90 2 rfl rfl ?_
    exact g_iret C () hr dX0_needs_91 (Nat.le_of_ble_eq_true rfl) (Nat.le_of_ble_eq_true rfl) rfl (by unfold neS; rw [if_neg s_39_1, if_neg s_39_2, if_neg s_39_3, if_neg s_39_4, if_neg s_39_5])

set_option maxRecDepth 100000 in
set_option maxHeartbeats 4000000 in
theorem k_X0_throughWall (l : Launch) (D : va_G) (q : Nat → ClassId) (tt : Nat → Nat) (a : Nat → Nat) (h : HC) (S : Nat → Int32) (N : Nat) (x : Int32) (hG : Gd S N) (rS : HR S N h) : MI l D q tt yX0_throughWall wsX0_throughWall ({ frames := 0, cells := 0, slots := 0, locals := 0 } : Room) [.ref (a 0), .int x] (hw q a h) (fun (r : Int32) (u : Unit) => r = (x / (1 + S 5))) (fun (_ : Unit) => (hw q a h)) 0 0 := by
  refine MI.of RX0 [(0, .ref (a 0)), (1, .int x)] (by decide) rfl rfl (Nat.le_of_ble_eq_true rfl) rfl ?_
  intro p e s m args below meth c A C hr hnm
  have w_0 : ∀ w ∈ u_ws RX0 TX0 11, w ∈ wsX0_throughWall := by decide +kernel
  have w_1 : Cond.fieldLink RX0 9 (TX0 0).1 (TX0 0).2.1 (TX0 0).2.2.1 ∈ wsX0_throughWall := by decide +kernel
  refine g_aloadn C dX0_throughWall_0 0 rfl rfl ?_
  refine g_get C fx0 w_0 0 0 (v := .ref (a 1)) rfl (by decide) w_1 rfl dX0_throughWall_1 ?_
  refine g_iconst C 2 dX0_throughWall_4 (by decide) ?_
  refine g_iald C 1 (2) (f := (hL h)) rfl rfl (by omega) (by decide) dX0_throughWall_5 ?_
  refine g_topci (S 5) (rS.1 2 (by omega)) ?_
  refine g_iconst C 1 dX0_throughWall_6 (by decide) ?_
  refine g_iadd C dX0_throughWall_7 ?_
  refine g_topci (1 + S 5) (Int32.add_comm _ _) ?_
  refine g_istoren C [(2, .int (1 + S 5)), (0, .ref (a 0)), (1, .int x)] dX0_throughWall_8 rfl (by decide) rfl ?_
  refine g_iloadn C dX0_throughWall_9 0 rfl rfl ?_
  refine g_if_ne C 17 dX0_throughWall_10 rfl (fun c_10 => ?_) (fun c_10 => ?_)
  · refine g_iloadn C dX0_throughWall_17 2 rfl rfl ?_
    refine g_iloadn C dX0_throughWall_18 0 rfl rfl ?_
    refine g_idiv C dX0_throughWall_19 c_10 ?_
    exact g_iret C () hr dX0_throughWall_20 (Nat.le_of_ble_eq_true rfl) (Nat.le_of_ble_eq_true rfl) rfl (rfl)
  · refine g_iconst C 0 dX0_throughWall_13 (by decide) ?_
    refine g_goto C 20 dX0_throughWall_14 rfl ?_
    exact g_iret C () hr dX0_throughWall_20 (Nat.le_of_ble_eq_true rfl) (Nat.le_of_ble_eq_true rfl) rfl (absurd c_10 hG.wall)

set_option maxRecDepth 100000 in
set_option maxHeartbeats 4000000 in
theorem k_X0_around (l : Launch) (D : va_G) (q : Nat → ClassId) (tt : Nat → Nat) (x : Int32)  : MI l D q tt yX0_around wsX0_around ({ frames := 0, cells := 0, slots := 0, locals := 0 } : Room) [.int x] [] (fun (r : Int32) (u : Unit) => r = (x &&& 7)) (fun (_ : Unit) => []) 0 0 := by
  refine MI.of RX0 [(0, .int x)] (by decide) rfl rfl (Nat.le_of_ble_eq_true rfl) rfl ?_
  intro p e s m args below meth c A C hr hnm
  refine g_iloadn C dX0_around_0 0 rfl rfl ?_
  refine g_bipush C 7 dX0_around_1 (by decide) ?_
  refine g_iand C dX0_around_3 ?_
  exact g_iret C () hr dX0_around_4 (Nat.le_of_ble_eq_true rfl) (Nat.le_of_ble_eq_true rfl) rfl (rfl)

