set_option maxRecDepth 100000 in
set_option maxHeartbeats 4000000 in
theorem k_X3_sortAt (l : Launch) (D : va_G) (q : Nat → ClassId) (tt : Nat → Nat) (a : Nat → Nat) (t : TC) (U : Nat → Int32) (n : Nat) (i : Nat) (hn : tL t = nI n) (hn2 : n ≤ 200) (hU : TPR (tB t) U n) (hi : i < 2 ^ 30) : MI l D q tt yX3_sortAt wsX3_sortAt ({ frames := 0, cells := 0, slots := 0, locals := 0 } : Room) [.ref (a 0), .int (nI i)] (tw q a t) (fun (r : Int32) (u : Unit) => r = (nI (kdT U n i))) (fun (_ : Unit) => (tw q a t)) 0 0 := by
  refine MI.of RX3 [(0, .ref (a 0)), (1, .int (nI i))] (by decide) rfl rfl (Nat.le_of_ble_eq_true rfl) rfl ?_
  intro p e s m args below meth c A C hr hnm
  have w_0 : ∀ w ∈ u_ws RX3 TX3 5, w ∈ wsX3_sortAt := by decide +kernel
  have w_1 : Cond.fieldLink RX3 9 (TX3 0).1 (TX3 0).2.1 (TX3 0).2.2.1 ∈ wsX3_sortAt := by decide +kernel
  have w_2 : Cond.fieldLink RX3 15 (TX3 1).1 (TX3 1).2.1 (TX3 1).2.2.1 ∈ wsX3_sortAt := by decide +kernel
  refine g_iloadn C dX3_sortAt_0 1 rfl rfl ?_
  refine g_aloadn C dX3_sortAt_1 0 rfl rfl ?_
  refine g_get C fx3 w_0 0 0 (v := .int (tL t)) rfl (by decide) w_1 rfl dX3_sortAt_2 ?_
  refine g_topci (nI n) (hn) ?_
  refine g_icmpN_lt C 10 (i) (n) dX3_sortAt_5 rfl (by omega) (by omega) (fun c_5 => ?_) (fun c_5 => ?_)
  · refine g_aloadn C dX3_sortAt_10 0 rfl rfl ?_
    refine g_get C fx3 w_0 0 1 (v := .ref (a 1)) rfl (by decide) w_2 rfl dX3_sortAt_11 ?_
    refine g_iloadn C dX3_sortAt_14 1 rfl rfl ?_
    refine g_bald C 1 (i) (f := (tB t)) rfl rfl (by omega) (by decide) dX3_sortAt_15 ?_
    refine g_istoren C [(2, .int ((tB t) i)), (0, .ref (a 0)), (1, .int (nI i))] dX3_sortAt_16 rfl (by decide) rfl ?_
    refine g_bipush C 97 dX3_sortAt_17 (by decide) ?_
    refine g_iloadn C dX3_sortAt_19 0 rfl rfl ?_
    refine g_icmp_gt C 31 dX3_sortAt_20 rfl (fun c_20 => ?_) (fun c_20 => ?_)
    · refine g_bipush C 48 dX3_sortAt_31 (by decide) ?_
      refine g_iloadn C dX3_sortAt_33 0 rfl rfl ?_
      refine g_icmp_gt C 47 dX3_sortAt_34 rfl (fun c_34 => ?_) (fun c_34 => ?_)
      · refine g_iconst C 3 dX3_sortAt_47 (by decide) ?_
        exact g_iret C () hr dX3_sortAt_48 (Nat.le_of_ble_eq_true rfl) (Nat.le_of_ble_eq_true rfl) rfl (by
            have hA_ : ¬ (97 ≤ U i ∧ U i ≤ 122) := fun z_ => absurd c_20 (Int32.not_lt.mpr ((tp_A hU (by omega)).mpr z_).1)
            have hB_ : ¬ (48 ≤ U i ∧ U i ≤ 57) := fun z_ => absurd c_34 (Int32.not_lt.mpr ((tp_D hU (by omega)).mpr z_).1)
            unfold kdT
            rw [if_neg (by omega), if_neg hA_, if_neg hB_]
            rfl)
      · refine g_iloadn C dX3_sortAt_37 0 rfl rfl ?_
        refine g_bipush C 57 dX3_sortAt_38 (by decide) ?_
        refine g_icmp_gt C 47 dX3_sortAt_40 rfl (fun c_40 => ?_) (fun c_40 => ?_)
        · refine g_iconst C 3 dX3_sortAt_47 (by decide) ?_
          exact g_iret C () hr dX3_sortAt_48 (Nat.le_of_ble_eq_true rfl) (Nat.le_of_ble_eq_true rfl) rfl (by
              have hA_ : ¬ (97 ≤ U i ∧ U i ≤ 122) := fun z_ => absurd c_20 (Int32.not_lt.mpr ((tp_A hU (by omega)).mpr z_).1)
              have hB_ : ¬ (48 ≤ U i ∧ U i ≤ 57) := fun z_ => absurd c_40 (Int32.not_lt.mpr ((tp_D hU (by omega)).mpr z_).2)
              unfold kdT
              rw [if_neg (by omega), if_neg hA_, if_neg hB_]
              rfl)
        · refine g_iconst C 2 dX3_sortAt_43 (by decide) ?_
          refine g_goto C 48 dX3_sortAt_44 rfl ?_
          exact g_iret C () hr dX3_sortAt_48 (Nat.le_of_ble_eq_true rfl) (Nat.le_of_ble_eq_true rfl) rfl (by
              have hA_ : ¬ (97 ≤ U i ∧ U i ≤ 122) := fun z_ => absurd c_20 (Int32.not_lt.mpr ((tp_A hU (by omega)).mpr z_).1)
              have hB_ : 48 ≤ U i ∧ U i ≤ 57 := (tp_D hU (by omega)).mp ⟨Int32.not_lt.mp c_34, Int32.not_lt.mp c_40⟩
              unfold kdT
              rw [if_neg (by omega), if_neg hA_, if_pos hB_]
              rfl)
    · refine g_iloadn C dX3_sortAt_23 0 rfl rfl ?_
      refine g_bipush C 122 dX3_sortAt_24 (by decide) ?_
      refine g_icmp_gt C 31 dX3_sortAt_26 rfl (fun c_26 => ?_) (fun c_26 => ?_)
      · refine g_bipush C 48 dX3_sortAt_31 (by decide) ?_
        refine g_iloadn C dX3_sortAt_33 0 rfl rfl ?_
        refine g_icmp_gt C 47 dX3_sortAt_34 rfl (fun c_34 => ?_) (fun c_34 => ?_)
        · refine g_iconst C 3 dX3_sortAt_47 (by decide) ?_
          exact g_iret C () hr dX3_sortAt_48 (Nat.le_of_ble_eq_true rfl) (Nat.le_of_ble_eq_true rfl) rfl (by
              have hA_ : ¬ (97 ≤ U i ∧ U i ≤ 122) := fun z_ => absurd c_26 (Int32.not_lt.mpr ((tp_A hU (by omega)).mpr z_).2)
              have hB_ : ¬ (48 ≤ U i ∧ U i ≤ 57) := fun z_ => absurd c_34 (Int32.not_lt.mpr ((tp_D hU (by omega)).mpr z_).1)
              unfold kdT
              rw [if_neg (by omega), if_neg hA_, if_neg hB_]
              rfl)
        · refine g_iloadn C dX3_sortAt_37 0 rfl rfl ?_
          refine g_bipush C 57 dX3_sortAt_38 (by decide) ?_
          refine g_icmp_gt C 47 dX3_sortAt_40 rfl (fun c_40 => ?_) (fun c_40 => ?_)
          · refine g_iconst C 3 dX3_sortAt_47 (by decide) ?_
            exact g_iret C () hr dX3_sortAt_48 (Nat.le_of_ble_eq_true rfl) (Nat.le_of_ble_eq_true rfl) rfl (by
                have hA_ : ¬ (97 ≤ U i ∧ U i ≤ 122) := fun z_ => absurd c_26 (Int32.not_lt.mpr ((tp_A hU (by omega)).mpr z_).2)
                have hB_ : ¬ (48 ≤ U i ∧ U i ≤ 57) := fun z_ => absurd c_40 (Int32.not_lt.mpr ((tp_D hU (by omega)).mpr z_).2)
                unfold kdT
                rw [if_neg (by omega), if_neg hA_, if_neg hB_]
                rfl)
          · refine g_iconst C 2 dX3_sortAt_43 (by decide) ?_
            refine g_goto C 48 dX3_sortAt_44 rfl ?_
            exact g_iret C () hr dX3_sortAt_48 (Nat.le_of_ble_eq_true rfl) (Nat.le_of_ble_eq_true rfl) rfl (by
                have hA_ : ¬ (97 ≤ U i ∧ U i ≤ 122) := fun z_ => absurd c_26 (Int32.not_lt.mpr ((tp_A hU (by omega)).mpr z_).2)
                have hB_ : 48 ≤ U i ∧ U i ≤ 57 := (tp_D hU (by omega)).mp ⟨Int32.not_lt.mp c_34, Int32.not_lt.mp c_40⟩
                unfold kdT
                rw [if_neg (by omega), if_neg hA_, if_pos hB_]
                rfl)
      · refine g_iconst C 1 dX3_sortAt_29 (by decide) ?_
        exact g_iret C () hr dX3_sortAt_30 (Nat.le_of_ble_eq_true rfl) (Nat.le_of_ble_eq_true rfl) rfl (by
            have hA_ : 97 ≤ U i ∧ U i ≤ 122 := (tp_A hU (by omega)).mp ⟨Int32.not_lt.mp c_20, Int32.not_lt.mp c_26⟩
            unfold kdT
            rw [if_neg (by omega), if_pos hA_]
            rfl)
  · refine g_iconst C 0 dX3_sortAt_8 (by decide) ?_
    exact g_iret C () hr dX3_sortAt_9 (Nat.le_of_ble_eq_true rfl) (Nat.le_of_ble_eq_true rfl) rfl (by unfold kdT; rw [if_pos (by omega)]; rfl)

set_option maxRecDepth 100000 in
set_option maxHeartbeats 4000000 in
theorem k_X3_next (l : Launch) (D : va_G) (q : Nat → ClassId) (tt : Nat → Nat) (a : Nat → Nat) (t : TC) (U : Nat → Int32) (n : Nat) (i : Nat) (hn : tL t = nI n) (hn2 : n ≤ 200) (hU : TPR (tB t) U n) (hi : i ≤ n) : MV l D q tt yX3_next wsX3_next ({ frames := 1, cells := 0, slots := 0, locals := 22 } : Room) [.ref (a 0)] (tw q a ((tL t), (tB t), (tS t), (tF t), (nI i))) (fun (u : Unit) => True) (fun (_ : Unit) => (tw q a ((tL t), (tB t), (nI (kdT U n (FB U n i))), (nI (FB U n i)), (nI (EN U n (FB U n i)))))) 0 0 := by
  refine MV.of RX3 [(0, .ref (a 0))] (by decide) rfl rfl (Nat.le_of_ble_eq_true rfl) rfl ?_
  intro p e s m args below meth c A C hr hnm
  have w_0 : ∀ w ∈ u_ws RX3 TX3 5, w ∈ wsX3_next := by decide +kernel
  have w_1 : Cond.fieldLink RX3 25 (TX3 4).1 (TX3 4).2.1 (TX3 4).2.2.1 ∈ wsX3_next := by decide +kernel
  have w_2 : Cond.fieldLink RX3 22 (TX3 3).1 (TX3 3).2.1 (TX3 3).2.2.1 ∈ wsX3_next := by decide +kernel
  have w_3 : Cond.fieldLink RX3 9 (TX3 0).1 (TX3 0).2.1 (TX3 0).2.2.1 ∈ wsX3_next := by decide +kernel
  have w_4 : Cond.fieldLink RX3 19 (TX3 2).1 (TX3 2).2.1 (TX3 2).2.2.1 ∈ wsX3_next := by decide +kernel
  have w_5 : Cond.fieldLink RX3 15 (TX3 1).1 (TX3 1).2.1 (TX3 1).2.2.1 ∈ wsX3_next := by decide +kernel
  refine g_aloadn C dX3_next_0 0 rfl rfl ?_
  refine g_aloadn C dX3_next_1 0 rfl rfl ?_
  refine g_get C fx3 w_0 0 4 (v := .int (nI i)) rfl (by decide) w_1 rfl dX3_next_2 ?_
  refine g_put C fx3 w_0 0 3 rfl (by decide) w_2 rfl rfl rfl (Nat.le_of_ble_eq_true rfl) dX3_next_5 (tw q a ((tL t), (tB t), (tS t), (nI i), (nI i))) rfl ?_
  have J_8 : ∀ (fu : Nat) (k : Nat), n - k < fu → (k ≤ n) → (FB U n i = rnB U n (n - k) k) → G p l e ({ frames := 1, cells := 0, slots := 0, locals := 22 } : Room) s m args below meth c 1 D A (MQ below (va_Qv (fun (u : Unit) => True) (Bw D A (fun (_ : Unit) => (tw q a ((tL t), (tB t), (nI (kdT U n (FB U n i))), (nI (FB U n i)), (nI (EN U n (FB U n i))))))) A) args s 0 0 A) 8 [(0, .ref (a 0))] [] (tw q a ((tL t), (tB t), (tS t), (nI k), (nI i))) 0 0 := by
    intro fu
    induction fu with
    | zero =>
      intro k hfu
      exact absurd hfu (Nat.not_lt_zero _)
    | succ fu ih =>
      intro k hfu hk hB
      refine g_aloadn C dX3_next_8 0 rfl rfl ?_
      refine g_get C fx3 w_0 0 3 (v := .int (nI k)) rfl (by decide) w_2 rfl dX3_next_9 ?_
      refine g_aloadn C dX3_next_12 0 rfl rfl ?_
      refine g_get C fx3 w_0 0 0 (v := .int (tL t)) rfl (by decide) w_3 rfl dX3_next_13 ?_
      refine g_topci (nI n) (hn) ?_
      refine g_icmpN_ge C 46 (k) (n) dX3_next_16 rfl (by omega) (by omega) (fun c_16 => ?_) (fun c_16 => ?_)
      · have h32 : ¬ (k < n ∧ U k = 32) := fun h => by omega
        have hkf : FB U n i = k := hB.trans (rb_st h32 _)
        refine g_aloadn C dX3_next_46 0 rfl rfl ?_
        refine g_aloadn C dX3_next_47 0 rfl rfl ?_
        refine g_get C fx3 w_0 0 3 (v := .int (nI k)) rfl (by decide) w_2 rfl dX3_next_48 ?_
        refine g_put C fx3 w_0 0 4 rfl (by decide) w_1 rfl rfl rfl (Nat.le_of_ble_eq_true rfl) dX3_next_51 (tw q a ((tL t), (tB t), (tS t), (nI k), (nI k))) rfl ?_
        refine g_aloadn C dX3_next_54 0 rfl rfl ?_
        refine g_aloadn C dX3_next_55 0 rfl rfl ?_
        refine g_aloadn C dX3_next_56 0 rfl rfl ?_
        refine g_get C fx3 w_0 0 3 (v := .int (nI k)) rfl (by decide) w_2 rfl dX3_next_57 ?_
        refine g_callAi C (rd_V C (k_X3_sortAt l D q tt a ((tL t), (tB t), (tS t), (nI k), (nI k)) U n k (by first | assumption | omega) (by first | assumption | omega) (by first | assumption | omega) (by first | assumption | omega)) gX3_next_X3_sortAt rfl rfl rfl 1 ok_X3_sortAt rfl 0 rfl rfl (rest := [.ref (a 0)]) rfl rfl (Nat.le_of_ble_eq_true rfl) dX3_next_60 ⟨(Nat.le_of_ble_eq_true rfl), (Nat.le_of_ble_eq_true rfl)⟩ ⟨(Nat.le_of_ble_eq_true rfl), (Nat.le_of_ble_eq_true rfl)⟩) (fun r_60 _ h_60 => ?_)
        obtain rfl := h_60
        refine g_topci (nI (kdT U n k)) rfl ?_
        refine g_put C fx3 w_0 0 2 rfl (by decide) w_4 rfl rfl rfl (Nat.le_of_ble_eq_true rfl) dX3_next_63 (tw q a ((tL t), (tB t), (nI (kdT U n k)), (nI k), (nI k))) rfl ?_
        refine g_aloadn C dX3_next_66 0 rfl rfl ?_
        refine g_get C fx3 w_0 0 2 (v := .int (nI (kdT U n k))) rfl (by decide) w_4 rfl dX3_next_67 ?_
        refine g_iconst C 3 dX3_next_70 (by decide) ?_
        refine g_icmpN_ne C 85 ((kdT U n k)) (3) dX3_next_71 rfl (kd_b _ _ _) (by omega) (fun c_71 => ?_) (fun c_71 => ?_)
        · have J_85 : ∀ (fu : Nat) (j : Nat), n - j < fu → (j ≤ n) → (EN U n k = rnK U n (kdT U n k) (n - j) j) → G p l e ({ frames := 1, cells := 0, slots := 0, locals := 22 } : Room) s m args below meth c 1 D A (MQ below (va_Qv (fun (u : Unit) => True) (Bw D A (fun (_ : Unit) => (tw q a ((tL t), (tB t), (nI (kdT U n (FB U n i))), (nI (FB U n i)), (nI (EN U n (FB U n i))))))) A) args s 0 0 A) 85 [(0, .ref (a 0))] [] (tw q a ((tL t), (tB t), (nI (kdT U n k)), (nI k), (nI j))) 0 0 := by
            intro fu
            induction fu with
            | zero =>
              intro j hfu
              exact absurd hfu (Nat.not_lt_zero _)
            | succ fu ih =>
              intro j hfu hj hE
              refine g_aloadn C dX3_next_85 0 rfl rfl ?_
              refine g_get C fx3 w_0 0 4 (v := .int (nI j)) rfl (by decide) w_1 rfl dX3_next_86 ?_
              refine g_aloadn C dX3_next_89 0 rfl rfl ?_
              refine g_get C fx3 w_0 0 0 (v := .int (tL t)) rfl (by decide) w_3 rfl dX3_next_90 ?_
              refine g_topci (nI n) (hn) ?_
              refine g_icmpN_ge C 124 (j) (n) dX3_next_93 rfl (by omega) (by omega) (fun c_93 => ?_) (fun c_93 => ?_)
              · refine g_wsc (tw q a ((tL t), (tB t), (nI (kdT U n k)), (nI k), (nI (EN U n k)))) (by rw [hE, rk_st (by first | (intro h; omega) | exact fun h => c_108 h.2)]) ?_
                refine g_wsc (tw q a ((tL t), (tB t), (nI (kdT U n (FB U n i))), (nI k), (nI (EN U n k)))) (by rw [hkf]) ?_
                refine g_wsc (tw q a ((tL t), (tB t), (nI (kdT U n (FB U n i))), (nI (FB U n i)), (nI (EN U n k)))) (by rw [hkf]) ?_
                refine g_wsc (tw q a ((tL t), (tB t), (nI (kdT U n (FB U n i))), (nI (FB U n i)), (nI (EN U n (FB U n i))))) (by rw [hkf]) ?_
                exact g_vret C () hr dX3_next_124 (Nat.le_of_ble_eq_true rfl) (Nat.le_of_ble_eq_true rfl) rfl (trivial)
              · refine g_aloadn C dX3_next_96 0 rfl rfl ?_
                refine g_aloadn C dX3_next_97 0 rfl rfl ?_
                refine g_get C fx3 w_0 0 4 (v := .int (nI j)) rfl (by decide) w_1 rfl dX3_next_98 ?_
                refine g_callAi C (rd_V C (k_X3_sortAt l D q tt a ((tL t), (tB t), (nI (kdT U n k)), (nI k), (nI j)) U n j (by first | assumption | omega) (by first | assumption | omega) (by first | assumption | omega) (by first | assumption | omega)) gX3_next_X3_sortAt rfl rfl rfl 1 ok_X3_sortAt rfl 0 rfl rfl (rest := []) rfl rfl (Nat.le_of_ble_eq_true rfl) dX3_next_101 ⟨(Nat.le_of_ble_eq_true rfl), (Nat.le_of_ble_eq_true rfl)⟩ ⟨(Nat.le_of_ble_eq_true rfl), (Nat.le_of_ble_eq_true rfl)⟩) (fun r_101 _ h_101 => ?_)
                obtain rfl := h_101
                refine g_topci (nI (kdT U n j)) rfl ?_
                refine g_aloadn C dX3_next_104 0 rfl rfl ?_
                refine g_get C fx3 w_0 0 2 (v := .int (nI (kdT U n k))) rfl (by decide) w_4 rfl dX3_next_105 ?_
                refine g_icmpN_ne C 124 ((kdT U n j)) ((kdT U n k)) dX3_next_108 rfl (kd_b _ _ _) (kd_b _ _ _) (fun c_108 => ?_) (fun c_108 => ?_)
                · refine g_wsc (tw q a ((tL t), (tB t), (nI (kdT U n k)), (nI k), (nI (EN U n k)))) (by rw [hE, rk_st (by first | (intro h; omega) | exact fun h => c_108 h.2)]) ?_
                  refine g_wsc (tw q a ((tL t), (tB t), (nI (kdT U n (FB U n i))), (nI k), (nI (EN U n k)))) (by rw [hkf]) ?_
                  refine g_wsc (tw q a ((tL t), (tB t), (nI (kdT U n (FB U n i))), (nI (FB U n i)), (nI (EN U n k)))) (by rw [hkf]) ?_
                  refine g_wsc (tw q a ((tL t), (tB t), (nI (kdT U n (FB U n i))), (nI (FB U n i)), (nI (EN U n (FB U n i))))) (by rw [hkf]) ?_
                  exact g_vret C () hr dX3_next_124 (Nat.le_of_ble_eq_true rfl) (Nat.le_of_ble_eq_true rfl) rfl (trivial)
                · refine g_aloadn C dX3_next_111 0 rfl rfl ?_
                  refine g_dup C dX3_next_112 rfl ?_
                  refine g_get C fx3 w_0 0 4 (v := .int (nI j)) rfl (by decide) w_1 rfl dX3_next_113 ?_
                  refine g_iconst C 1 dX3_next_116 (by decide) ?_
                  refine g_iadd C dX3_next_117 ?_
                  refine g_topci (nI (j + 1)) (nI_add j 1) ?_
                  refine g_put C fx3 w_0 0 4 rfl (by decide) w_1 rfl rfl rfl (Nat.le_of_ble_eq_true rfl) dX3_next_118 (tw q a ((tL t), (tB t), (nI (kdT U n k)), (nI k), (nI (j + 1)))) rfl ?_
                  refine g_goto C 85 dX3_next_121 rfl ?_
                  exact ih ((j + 1)) (by omega) (by omega) (hE.trans (rk_go (by omega) c_108))
          exact J_85 _ (k) (Nat.lt_succ_self _) hk (by unfold EN; rw [if_neg c_71])
        · refine g_aloadn C dX3_next_74 0 rfl rfl ?_
          refine g_dup C dX3_next_75 rfl ?_
          refine g_get C fx3 w_0 0 4 (v := .int (nI k)) rfl (by decide) w_1 rfl dX3_next_76 ?_
          refine g_iconst C 1 dX3_next_79 (by decide) ?_
          refine g_iadd C dX3_next_80 ?_
          refine g_topci (nI (EN U n k)) (by
              have e_ : EN U n k = k + 1 := by unfold EN; rw [if_pos c_71]
              rw [e_]; exact nI_add k 1) ?_
          refine g_put C fx3 w_0 0 4 rfl (by decide) w_1 rfl rfl rfl (Nat.le_of_ble_eq_true rfl) dX3_next_81 (tw q a ((tL t), (tB t), (nI (kdT U n k)), (nI k), (nI (EN U n k)))) rfl ?_
          refine g_wsc (tw q a ((tL t), (tB t), (nI (kdT U n (FB U n i))), (nI k), (nI (EN U n k)))) (by rw [hkf]) ?_
          refine g_wsc (tw q a ((tL t), (tB t), (nI (kdT U n (FB U n i))), (nI (FB U n i)), (nI (EN U n k)))) (by rw [hkf]) ?_
          refine g_wsc (tw q a ((tL t), (tB t), (nI (kdT U n (FB U n i))), (nI (FB U n i)), (nI (EN U n (FB U n i))))) (by rw [hkf]) ?_
          exact g_vret C () hr dX3_next_84 (Nat.le_of_ble_eq_true rfl) (Nat.le_of_ble_eq_true rfl) rfl (trivial)
      · refine g_aloadn C dX3_next_19 0 rfl rfl ?_
        refine g_get C fx3 w_0 0 1 (v := .ref (a 1)) rfl (by decide) w_5 rfl dX3_next_20 ?_
        refine g_aloadn C dX3_next_23 0 rfl rfl ?_
        refine g_get C fx3 w_0 0 3 (v := .int (nI k)) rfl (by decide) w_2 rfl dX3_next_24 ?_
        refine g_bald C 1 (k) (f := (tB t)) rfl rfl (by omega) (by decide) dX3_next_27 ?_
        refine g_bipush C 32 dX3_next_28 (by decide) ?_
        refine g_icmp_ne C 46 dX3_next_30 rfl (fun c_30 => ?_) (fun c_30 => ?_)
        · have h32 : ¬ (k < n ∧ U k = 32) := fun h => c_30 ((tp_32 hU h.1).mpr h.2)
          have hkf : FB U n i = k := hB.trans (rb_st h32 _)
          refine g_aloadn C dX3_next_46 0 rfl rfl ?_
          refine g_aloadn C dX3_next_47 0 rfl rfl ?_
          refine g_get C fx3 w_0 0 3 (v := .int (nI k)) rfl (by decide) w_2 rfl dX3_next_48 ?_
          refine g_put C fx3 w_0 0 4 rfl (by decide) w_1 rfl rfl rfl (Nat.le_of_ble_eq_true rfl) dX3_next_51 (tw q a ((tL t), (tB t), (tS t), (nI k), (nI k))) rfl ?_
          refine g_aloadn C dX3_next_54 0 rfl rfl ?_
          refine g_aloadn C dX3_next_55 0 rfl rfl ?_
          refine g_aloadn C dX3_next_56 0 rfl rfl ?_
          refine g_get C fx3 w_0 0 3 (v := .int (nI k)) rfl (by decide) w_2 rfl dX3_next_57 ?_
          refine g_callAi C (rd_V C (k_X3_sortAt l D q tt a ((tL t), (tB t), (tS t), (nI k), (nI k)) U n k (by first | assumption | omega) (by first | assumption | omega) (by first | assumption | omega) (by first | assumption | omega)) gX3_next_X3_sortAt rfl rfl rfl 1 ok_X3_sortAt rfl 0 rfl rfl (rest := [.ref (a 0)]) rfl rfl (Nat.le_of_ble_eq_true rfl) dX3_next_60 ⟨(Nat.le_of_ble_eq_true rfl), (Nat.le_of_ble_eq_true rfl)⟩ ⟨(Nat.le_of_ble_eq_true rfl), (Nat.le_of_ble_eq_true rfl)⟩) (fun r_60 _ h_60 => ?_)
          obtain rfl := h_60
          refine g_topci (nI (kdT U n k)) rfl ?_
          refine g_put C fx3 w_0 0 2 rfl (by decide) w_4 rfl rfl rfl (Nat.le_of_ble_eq_true rfl) dX3_next_63 (tw q a ((tL t), (tB t), (nI (kdT U n k)), (nI k), (nI k))) rfl ?_
          refine g_aloadn C dX3_next_66 0 rfl rfl ?_
          refine g_get C fx3 w_0 0 2 (v := .int (nI (kdT U n k))) rfl (by decide) w_4 rfl dX3_next_67 ?_
          refine g_iconst C 3 dX3_next_70 (by decide) ?_
          refine g_icmpN_ne C 85 ((kdT U n k)) (3) dX3_next_71 rfl (kd_b _ _ _) (by omega) (fun c_71 => ?_) (fun c_71 => ?_)
          · have J_85 : ∀ (fu : Nat) (j : Nat), n - j < fu → (j ≤ n) → (EN U n k = rnK U n (kdT U n k) (n - j) j) → G p l e ({ frames := 1, cells := 0, slots := 0, locals := 22 } : Room) s m args below meth c 1 D A (MQ below (va_Qv (fun (u : Unit) => True) (Bw D A (fun (_ : Unit) => (tw q a ((tL t), (tB t), (nI (kdT U n (FB U n i))), (nI (FB U n i)), (nI (EN U n (FB U n i))))))) A) args s 0 0 A) 85 [(0, .ref (a 0))] [] (tw q a ((tL t), (tB t), (nI (kdT U n k)), (nI k), (nI j))) 0 0 := by
              intro fu
              induction fu with
              | zero =>
                intro j hfu
                exact absurd hfu (Nat.not_lt_zero _)
              | succ fu ih =>
                intro j hfu hj hE
                refine g_aloadn C dX3_next_85 0 rfl rfl ?_
                refine g_get C fx3 w_0 0 4 (v := .int (nI j)) rfl (by decide) w_1 rfl dX3_next_86 ?_
                refine g_aloadn C dX3_next_89 0 rfl rfl ?_
                refine g_get C fx3 w_0 0 0 (v := .int (tL t)) rfl (by decide) w_3 rfl dX3_next_90 ?_
                refine g_topci (nI n) (hn) ?_
                refine g_icmpN_ge C 124 (j) (n) dX3_next_93 rfl (by omega) (by omega) (fun c_93 => ?_) (fun c_93 => ?_)
                · refine g_wsc (tw q a ((tL t), (tB t), (nI (kdT U n k)), (nI k), (nI (EN U n k)))) (by rw [hE, rk_st (by first | (intro h; omega) | exact fun h => c_108 h.2)]) ?_
                  refine g_wsc (tw q a ((tL t), (tB t), (nI (kdT U n (FB U n i))), (nI k), (nI (EN U n k)))) (by rw [hkf]) ?_
                  refine g_wsc (tw q a ((tL t), (tB t), (nI (kdT U n (FB U n i))), (nI (FB U n i)), (nI (EN U n k)))) (by rw [hkf]) ?_
                  refine g_wsc (tw q a ((tL t), (tB t), (nI (kdT U n (FB U n i))), (nI (FB U n i)), (nI (EN U n (FB U n i))))) (by rw [hkf]) ?_
                  exact g_vret C () hr dX3_next_124 (Nat.le_of_ble_eq_true rfl) (Nat.le_of_ble_eq_true rfl) rfl (trivial)
                · refine g_aloadn C dX3_next_96 0 rfl rfl ?_
                  refine g_aloadn C dX3_next_97 0 rfl rfl ?_
                  refine g_get C fx3 w_0 0 4 (v := .int (nI j)) rfl (by decide) w_1 rfl dX3_next_98 ?_
                  refine g_callAi C (rd_V C (k_X3_sortAt l D q tt a ((tL t), (tB t), (nI (kdT U n k)), (nI k), (nI j)) U n j (by first | assumption | omega) (by first | assumption | omega) (by first | assumption | omega) (by first | assumption | omega)) gX3_next_X3_sortAt rfl rfl rfl 1 ok_X3_sortAt rfl 0 rfl rfl (rest := []) rfl rfl (Nat.le_of_ble_eq_true rfl) dX3_next_101 ⟨(Nat.le_of_ble_eq_true rfl), (Nat.le_of_ble_eq_true rfl)⟩ ⟨(Nat.le_of_ble_eq_true rfl), (Nat.le_of_ble_eq_true rfl)⟩) (fun r_101 _ h_101 => ?_)
                  obtain rfl := h_101
                  refine g_topci (nI (kdT U n j)) rfl ?_
                  refine g_aloadn C dX3_next_104 0 rfl rfl ?_
                  refine g_get C fx3 w_0 0 2 (v := .int (nI (kdT U n k))) rfl (by decide) w_4 rfl dX3_next_105 ?_
                  refine g_icmpN_ne C 124 ((kdT U n j)) ((kdT U n k)) dX3_next_108 rfl (kd_b _ _ _) (kd_b _ _ _) (fun c_108 => ?_) (fun c_108 => ?_)
                  · refine g_wsc (tw q a ((tL t), (tB t), (nI (kdT U n k)), (nI k), (nI (EN U n k)))) (by rw [hE, rk_st (by first | (intro h; omega) | exact fun h => c_108 h.2)]) ?_
                    refine g_wsc (tw q a ((tL t), (tB t), (nI (kdT U n (FB U n i))), (nI k), (nI (EN U n k)))) (by rw [hkf]) ?_
                    refine g_wsc (tw q a ((tL t), (tB t), (nI (kdT U n (FB U n i))), (nI (FB U n i)), (nI (EN U n k)))) (by rw [hkf]) ?_
                    refine g_wsc (tw q a ((tL t), (tB t), (nI (kdT U n (FB U n i))), (nI (FB U n i)), (nI (EN U n (FB U n i))))) (by rw [hkf]) ?_
                    exact g_vret C () hr dX3_next_124 (Nat.le_of_ble_eq_true rfl) (Nat.le_of_ble_eq_true rfl) rfl (trivial)
                  · refine g_aloadn C dX3_next_111 0 rfl rfl ?_
                    refine g_dup C dX3_next_112 rfl ?_
                    refine g_get C fx3 w_0 0 4 (v := .int (nI j)) rfl (by decide) w_1 rfl dX3_next_113 ?_
                    refine g_iconst C 1 dX3_next_116 (by decide) ?_
                    refine g_iadd C dX3_next_117 ?_
                    refine g_topci (nI (j + 1)) (nI_add j 1) ?_
                    refine g_put C fx3 w_0 0 4 rfl (by decide) w_1 rfl rfl rfl (Nat.le_of_ble_eq_true rfl) dX3_next_118 (tw q a ((tL t), (tB t), (nI (kdT U n k)), (nI k), (nI (j + 1)))) rfl ?_
                    refine g_goto C 85 dX3_next_121 rfl ?_
                    exact ih ((j + 1)) (by omega) (by omega) (hE.trans (rk_go (by omega) c_108))
            exact J_85 _ (k) (Nat.lt_succ_self _) hk (by unfold EN; rw [if_neg c_71])
          · refine g_aloadn C dX3_next_74 0 rfl rfl ?_
            refine g_dup C dX3_next_75 rfl ?_
            refine g_get C fx3 w_0 0 4 (v := .int (nI k)) rfl (by decide) w_1 rfl dX3_next_76 ?_
            refine g_iconst C 1 dX3_next_79 (by decide) ?_
            refine g_iadd C dX3_next_80 ?_
            refine g_topci (nI (EN U n k)) (by
                have e_ : EN U n k = k + 1 := by unfold EN; rw [if_pos c_71]
                rw [e_]; exact nI_add k 1) ?_
            refine g_put C fx3 w_0 0 4 rfl (by decide) w_1 rfl rfl rfl (Nat.le_of_ble_eq_true rfl) dX3_next_81 (tw q a ((tL t), (tB t), (nI (kdT U n k)), (nI k), (nI (EN U n k)))) rfl ?_
            refine g_wsc (tw q a ((tL t), (tB t), (nI (kdT U n (FB U n i))), (nI k), (nI (EN U n k)))) (by rw [hkf]) ?_
            refine g_wsc (tw q a ((tL t), (tB t), (nI (kdT U n (FB U n i))), (nI (FB U n i)), (nI (EN U n k)))) (by rw [hkf]) ?_
            refine g_wsc (tw q a ((tL t), (tB t), (nI (kdT U n (FB U n i))), (nI (FB U n i)), (nI (EN U n (FB U n i))))) (by rw [hkf]) ?_
            exact g_vret C () hr dX3_next_84 (Nat.le_of_ble_eq_true rfl) (Nat.le_of_ble_eq_true rfl) rfl (trivial)
        · have h32 : k < n ∧ U k = 32 := ⟨by omega, (tp_32 hU (by omega)).mp c_30⟩
          refine g_aloadn C dX3_next_33 0 rfl rfl ?_
          refine g_dup C dX3_next_34 rfl ?_
          refine g_get C fx3 w_0 0 3 (v := .int (nI k)) rfl (by decide) w_2 rfl dX3_next_35 ?_
          refine g_iconst C 1 dX3_next_38 (by decide) ?_
          refine g_iadd C dX3_next_39 ?_
          refine g_topci (nI (k + 1)) (nI_add k 1) ?_
          refine g_put C fx3 w_0 0 3 rfl (by decide) w_2 rfl rfl rfl (Nat.le_of_ble_eq_true rfl) dX3_next_40 (tw q a ((tL t), (tB t), (tS t), (nI (k + 1)), (nI i))) rfl ?_
          refine g_goto C 8 dX3_next_43 rfl ?_
          exact ih ((k + 1)) (by omega) h32.1 (hB.trans (rb_go h32.1 h32.2))
  exact J_8 _ (i) (Nat.lt_succ_self _) hi rfl

