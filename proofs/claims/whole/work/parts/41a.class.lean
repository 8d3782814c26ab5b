set_option maxRecDepth 100000 in
set_option maxHeartbeats 4000000 in
theorem k_X3_take (l : Launch) (D : va_G) (q : Nat → ClassId) (tt : Nat → Nat) (a : Nat → Nat) (t : TC) (U : Nat → Int32) (n : Nat) (x : Int64) (j : Nat) (hn : tL t = nI n) (hn2 : n ≤ 200) (hU : TPR (tB t) U n) (hj : j ≤ 8) (hnj : n + j ≤ 200) : MV l D q tt yX3_take wsX3_take ({ frames := 0, cells := 0, slots := 0, locals := 0 } : Room) [.ref (a 0), .long x, .int (nI j)] (tw q a t) (fun (u : Nat → Int32) => TPR u (fdR U n x j) (n + j)) (fun u => (tw q a ((nI (n + j)), u, (tS t), (tF t), (tE t)))) 0 0 := by
  refine MV.of RX3 [(0, .ref (a 0)), (1, .long x), (3, .int (nI j))] (by decide) rfl rfl (Nat.le_of_ble_eq_true rfl) rfl ?_
  intro p e s m args below meth c A C hr hnm
  have w_0 : ∀ w ∈ u_ws RX3 TX3 5, w ∈ wsX3_take := by decide +kernel
  have w_1 : Cond.fieldLink RX3 9 (TX3 0).1 (TX3 0).2.1 (TX3 0).2.2.1 ∈ wsX3_take := by decide +kernel
  have w_2 : Cond.fieldLink RX3 15 (TX3 1).1 (TX3 1).2.1 (TX3 1).2.2.1 ∈ wsX3_take := by decide +kernel
  refine g_iconst C 0 dX3_take_0 (by decide) ?_
  refine g_istore C [(4, .int 0), (0, .ref (a 0)), (1, .long x), (3, .int (nI j))] dX3_take_1 (by decide) rfl ?_
  have J_3 : ∀ (fu : Nat) (i : Nat) (bb : Nat → Int32), j - i < fu → (i ≤ j) → (TPR bb (fdR U n x i) (n + i)) → G p l e ({ frames := 0, cells := 0, slots := 0, locals := 0 } : Room) s m args below meth c 5 D A (MQ below (va_Qv (fun (u : Nat → Int32) => TPR u (fdR U n x j) (n + j)) (Bw D A (fun u => (tw q a ((nI (n + j)), u, (tS t), (tF t), (tE t))))) A) args s 0 0 A) 3 [(0, .ref (a 0)), (1, .long x), (3, .int (nI j)), (4, .int (nI i))] [] (tw q a ((nI (n + i)), bb, (tS t), (tF t), (tE t))) 0 0 := by
    intro fu
    induction fu with
    | zero =>
      intro i bb hfu
      exact absurd hfu (Nat.not_lt_zero _)
    | succ fu ih =>
      intro i bb hfu hi hb
      refine g_iload C dX3_take_3 3 rfl ?_
      refine g_iloadn C dX3_take_5 2 rfl rfl ?_
      refine g_icmpN_ge C 53 (i) (j) dX3_take_6 rfl (by omega) (by omega) (fun c_6 => ?_) (fun c_6 => ?_)
      · refine g_wsc (tw q a ((nI (n + j)), bb, (tS t), (tF t), (tE t))) (by rw [show i = j by omega]) ?_
        exact g_vret C bb hr dX3_take_53 (Nat.le_of_ble_eq_true rfl) (Nat.le_of_ble_eq_true rfl) rfl (by first | (rw [show j = i by omega]; exact hb) | (exfalso; omega))
      · refine g_aloadn C dX3_take_9 0 rfl rfl ?_
        refine g_get C fx3 w_0 0 0 (v := .int (nI (n + i))) rfl (by decide) w_1 rfl dX3_take_10 ?_
        refine g_sipush C 200 dX3_take_13 (by decide) ?_
        refine g_icmpN_ge C 53 ((n + i)) (200) dX3_take_16 rfl (by omega) (by omega) (fun c_16 => ?_) (fun c_16 => ?_)
        · refine g_wsc (tw q a ((nI (n + j)), bb, (tS t), (tF t), (tE t))) (by rw [show i = j by omega]) ?_
          exact g_vret C bb hr dX3_take_53 (Nat.le_of_ble_eq_true rfl) (Nat.le_of_ble_eq_true rfl) rfl (by first | (rw [show j = i by omega]; exact hb) | (exfalso; omega))
        · refine g_aloadn C dX3_take_19 0 rfl rfl ?_
          refine g_get C fx3 w_0 0 1 (v := .ref (a 1)) rfl (by decide) w_2 rfl dX3_take_20 ?_
          refine g_aloadn C dX3_take_23 0 rfl rfl ?_
          refine g_get C fx3 w_0 0 0 (v := .int (nI (n + i))) rfl (by decide) w_1 rfl dX3_take_24 ?_
          refine g_lloadn C dX3_take_27 1 rfl rfl ?_
          refine g_bipush C 8 dX3_take_28 (by decide) ?_
          refine g_iload C dX3_take_30 3 rfl ?_
          refine g_imul C dX3_take_32 ?_
          refine g_lushr C dX3_take_33 ?_
          refine g_l2i C dX3_take_34 ?_
          refine g_i2b C dX3_take_35 ?_
          refine g_topci (fbV x i) (rfl) ?_
          refine g_bast C 1 ((n + i)) (f := bb) rfl rfl (by omega) (by decide) dX3_take_36 (tw q a ((nI (n + i)), (upd bb (n + i) (vp_nar .byte (fbV x i))), (tS t), (tF t), (tE t))) rfl ?_
          refine g_aloadn C dX3_take_37 0 rfl rfl ?_
          refine g_dup C dX3_take_38 rfl ?_
          refine g_get C fx3 w_0 0 0 (v := .int (nI (n + i))) rfl (by decide) w_1 rfl dX3_take_39 ?_
          refine g_iconst C 1 dX3_take_42 (by decide) ?_
          refine g_iadd C dX3_take_43 ?_
          refine g_topci (nI (n + (i + 1))) (nI_add (n + i) 1) ?_
          refine g_put C fx3 w_0 0 0 rfl (by decide) w_1 rfl rfl rfl (Nat.le_of_ble_eq_true rfl) dX3_take_44 (tw q a ((nI (n + (i + 1))), (upd bb (n + i) (vp_nar .byte (fbV x i))), (tS t), (tF t), (tE t))) rfl ?_
          refine g_iinc C (nI (i + 1)) [(4, .int (nI (i + 1))), (0, .ref (a 0)), (1, .long x), (3, .int (nI j))] dX3_take_47 3 rfl (nI_add i 1) (by decide) rfl ?_
          refine g_goto C 3 dX3_take_50 rfl ?_
          refine g_sub [1, 2, 3, 0] (lv' := [(0, .ref (a 0)), (1, .long x), (3, .int (nI j)), (4, .int (nI (i + 1)))]) rfl ?_
          exact ih ((i + 1)) ((upd bb (n + i) (vp_nar .byte (fbV x i)))) (by omega) (by first | assumption | omega) (tp_step hb (by omega))
  refine g_wsc (tw q a ((nI (n + 0)), (tB t), (tS t), (tF t), (tE t))) (by
      have e_ : nI (n + 0) = tL t := hn.symm
      rw [e_]) ?_
  refine g_sub [1, 2, 3, 0] (lv' := [(0, .ref (a 0)), (1, .long x), (3, .int (nI j)), (4, .int 0)]) rfl ?_
  exact J_3 _ (0) ((tB t)) (Nat.lt_succ_self _) (by first | assumption | omega) hU

