set_option maxRecDepth 100000 in
set_option maxHeartbeats 4000000 in
theorem k_X3_readInto (l : Launch) (D : va_G) (q : Nat → ClassId) (tt : Nat → Nat) (a : Nat → Nat) (t : TC) (U : Nat → Int32) (n : Nat) (b : Nat → Nat) (h : HC) (S0 : Nat → Int32) (hn : tL t = nI n) (hn2 : n ≤ 200) (hU : TPR (tB t) U n) (rS : HR (bgS S0) 0 h) : MI l D q tt yX3_readInto wsX3_readInto ({ frames := 8, cells := 0, slots := 0, locals := 176 } : Room) [.ref (a 0), .ref (b 0)] (tw q a t ++ (hw q b h)) (fun (r : Int32) (u : Int32 × Int32 × Int32 × HC) => r = (if (opR U n S0).1 = 0 then -1 else nI (opR U n S0).2.1) ∧ ((opR U n S0).1 = 0 → HR (opR U n S0).2.2.1 (opR U n S0).2.2.2 u.2.2.2)) (fun u => (tw q a ((tL t), (tB t), u.1, u.2.1, u.2.2.1) ++ (hw q b u.2.2.2))) 0 0 := by
  refine MI.of RX3 [(0, .ref (a 0)), (1, .ref (b 0))] (by decide) rfl rfl (Nat.le_of_ble_eq_true rfl) rfl ?_
  intro p e s m args below meth c A C hr hnm
  have w_0 : ∀ w ∈ u_ws RX3 TX3 5, w ∈ wsX3_readInto := by decide +kernel
  have w_1 : Cond.fieldLink RX3 25 (TX3 4).1 (TX3 4).2.1 (TX3 4).2.2.1 ∈ wsX3_readInto := by decide +kernel
  have w_2 : Cond.fieldLink RX3 19 (TX3 2).1 (TX3 2).2.1 (TX3 2).2.2.1 ∈ wsX3_readInto := by decide +kernel
  have w_3 : Cond.fieldLink RX3 22 (TX3 3).1 (TX3 3).2.1 (TX3 3).2.2.1 ∈ wsX3_readInto := by decide +kernel
  refine g_aloadn C dX3_readInto_0 0 rfl rfl ?_
  refine g_iconst C 0 dX3_readInto_1 (by decide) ?_
  refine g_put C fx3 w_0 0 4 rfl (by decide) w_1 rfl rfl rfl (Nat.le_of_ble_eq_true rfl) dX3_readInto_2 (tw q a ((tL t), (tB t), (tS t), (tF t), 0) ++ (hw q b h)) rfl ?_
  refine g_aloadn C dX3_readInto_5 0 rfl rfl ?_
  refine g_callWv (w1 := (tw q a ((tL t), (tB t), (tS t), (tF t), 0) ++ (hw q b h))) (wr := ([2, 3, 4, 5, 6, 7, 8, 9] : List Nat).filterMap (fun i => (tw q a ((tL t), (tB t), (tS t), (tF t), 0) ++ (hw q b h))[i]?)) (isC := [0, 1]) (isR := [2, 3, 4, 5, 6, 7, 8, 9]) (pm := [8, 9, 0, 1, 2, 3, 4, 5, 6, 7]) (w1' := (fun _ => (tw q a ((tL t), (tB t), (nI (kdT U n (FB U n 0))), (nI (FB U n 0)), (nI (EN U n (FB U n 0)))) ++ (hw q b h)))) C (rd_V C (k_X3_next l D q tt a t U n 0 (by first | assumption | omega) (by first | assumption | omega) (by first | assumption | omega) (Nat.zero_le n)) gX3_readInto_X3_next rfl rfl rfl 0 ok_X3_next rfl 0 rfl rfl (rest := []) rfl rfl (Nat.le_of_ble_eq_true rfl) dX3_readInto_6 ⟨(Nat.le_of_ble_eq_true rfl), (Nat.le_of_ble_eq_true rfl)⟩ ⟨(Nat.le_of_ble_eq_true rfl), (Nat.le_of_ble_eq_true rfl)⟩) rfl rfl rfl (fun _ => rfl) rfl (fun _ h_6 => ?_)
  refine g_iconst C 0 dX3_readInto_9 (by decide) ?_
  refine g_istoren C [(2, .int 0), (0, .ref (a 0)), (1, .ref (b 0))] dX3_readInto_10 rfl (by decide) rfl ?_
  have J_11 : ∀ (fu : Nat) (i : Nat) (f : Nat) (T : Nat → Int32) (M : Nat) (k : HC), 201 - i < fu → (f ≤ n) → (i ≤ f) → (opI U n S0 f 0 T M (201 - i)) → (HR T M k) → G p l e ({ frames := 8, cells := 0, slots := 0, locals := 176 } : Room) s m args below meth c 3 D A (MQ below (va_Qi (fun (r : Int32) (u : Int32 × Int32 × Int32 × HC) => r = (if (opR U n S0).1 = 0 then -1 else nI (opR U n S0).2.1) ∧ ((opR U n S0).1 = 0 → HR (opR U n S0).2.2.1 (opR U n S0).2.2.2 u.2.2.2)) (Bw D A (fun u => (tw q a ((tL t), (tB t), u.1, u.2.1, u.2.2.1) ++ (hw q b u.2.2.2)))) A) args s 0 0 A) 11 [(0, .ref (a 0)), (1, .ref (b 0)), (2, .int (nI i))] [] (tw q a ((tL t), (tB t), (nI (kdT U n f)), (nI f), (nI (EN U n f))) ++ (hw q b k)) 0 0 := by
    intro fu
    induction fu with
    | zero =>
      intro i f T M k hfu
      exact absurd hfu (Nat.not_lt_zero _)
    | succ fu ih =>
      intro i f T M k hfu hf hif hI hH
      refine g_iloadn C dX3_readInto_11 2 rfl rfl ?_
      refine g_sipush C 200 dX3_readInto_12 (by decide) ?_
      refine g_icmpN_ge C 44 (i) (200) dX3_readInto_15 rfl (by omega) (by omega) (fun c_15 => ?_) (fun c_15 => ?_)
      · refine g_iconst C (-1) dX3_readInto_44 (by decide) ?_
        exact g_iret C ((nI (kdT U n f)), (nI f), (nI (EN U n f)), k) hr dX3_readInto_45 (Nat.le_of_ble_eq_true rfl) (Nat.le_of_ble_eq_true rfl) rfl (by obtain ⟨e0_, e1_⟩ := op_end hI rfl (kd_0.mpr (by omega)); rw [e0_]; exact ⟨(if_pos rfl).symm, fun _ => hH⟩)
      · refine g_aloadn C dX3_readInto_18 0 rfl rfl ?_
        refine g_get C fx3 w_0 0 2 (v := .int (nI (kdT U n f))) rfl (by decide) w_2 rfl dX3_readInto_19 ?_
        refine g_ifN_eq C 44 ((kdT U n f)) dX3_readInto_22 rfl (kd_b _ _ _) (fun c_22 => ?_) (fun c_22 => ?_)
        · refine g_iconst C (-1) dX3_readInto_44 (by decide) ?_
          exact g_iret C ((nI (kdT U n f)), (nI f), (nI (EN U n f)), k) hr dX3_readInto_45 (Nat.le_of_ble_eq_true rfl) (Nat.le_of_ble_eq_true rfl) rfl (by obtain ⟨e0_, e1_⟩ := op_end hI rfl c_22; rw [e0_]; exact ⟨(if_pos rfl).symm, fun _ => hH⟩)
        · refine g_aloadn C dX3_readInto_25 0 rfl rfl ?_
          refine g_aloadn C dX3_readInto_26 1 rfl rfl ?_
          refine g_callAi C (rd_V C (k_X3_readOne l D q tt a t U n f b k T M (by first | assumption | omega) (by first | assumption | omega) (by first | assumption | omega) (by first | assumption | omega) (op_G hI) hH) gX3_readInto_X3_readOne rfl rfl rfl 1 ok_X3_readOne rfl 0 rfl rfl (rest := []) rfl rfl (Nat.le_of_ble_eq_true rfl) dX3_readInto_27 ⟨(Nat.le_of_ble_eq_true rfl), (Nat.le_of_ble_eq_true rfl)⟩ ⟨(Nat.le_of_ble_eq_true rfl), (Nat.le_of_ble_eq_true rfl)⟩) (fun r_27 u_27 h_27 => ?_)
          obtain ⟨rfl, h_27⟩ := h_27
          refine g_ifneE C 38 dX3_readInto_30 rfl rfl (fun c_30 => ?_) (fun c_30 => ?_)
          · refine g_iinc C (nI (i + 1)) [(2, .int (nI (i + 1))), (0, .ref (a 0)), (1, .ref (b 0))] dX3_readInto_38 2 rfl (nI_add i 1) (by decide) rfl ?_
            refine g_goto C 11 dX3_readInto_41 rfl ?_
            refine g_sub [1, 2, 0] (lv' := [(0, .ref (a 0)), (1, .ref (b 0)), (2, .int (nI (i + 1)))]) rfl ?_
            exact ih ((i + 1)) ((itR U n T M f).2.1) ((itR U n T M f).2.2.1) ((itR U n T M f).2.2.2) (u_27) (by omega) (it_G hf).2.1 (by have h_ := (it_G hf).2.2 c_30; omega) (op_back0 hI c_22 hf hn2 c_30 (by omega)) (h_27 c_30)
          · refine g_aloadn C dX3_readInto_33 0 rfl rfl ?_
            refine g_get C fx3 w_0 0 3 (v := .int (nI (itR U n T M f).2.1)) rfl (by decide) w_3 rfl dX3_readInto_34 ?_
            exact g_iret C ((nI (kdT U n (itR U n T M f).2.1)), (nI (itR U n T M f).2.1), (nI (EN U n (itR U n T M f).2.1)), u_27) hr dX3_readInto_37 (Nat.le_of_ble_eq_true rfl) (Nat.le_of_ble_eq_true rfl) rfl (by obtain ⟨e1_, e2_⟩ := op_bad (op_back hI rfl c_22 hf hn2 (fun _ => rfl)) c_30; rw [if_neg e1_, e2_]; exact ⟨rfl, fun h_ => absurd h_ e1_⟩)
  refine g_sub [1, 2, 0] (lv' := [(0, .ref (a 0)), (1, .ref (b 0)), (2, .int 0)]) rfl ?_
  exact J_11 _ (0) ((FB U n 0)) ((bgS S0)) (0) (h) (Nat.lt_succ_self _) (fb_le (Nat.zero_le n)).2 (Nat.zero_le _) (op_0 _ _ _) rS

