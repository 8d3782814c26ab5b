set_option maxRecDepth 100000 in
set_option maxHeartbeats 4000000 in
theorem k_X4_stir (l : Launch) (D : va_G) (q : Nat → ClassId) (tt : Nat → Nat) (B : Nat → Nat → Nat) (o : OC) (h1 : HC) (h2 : HC) (h3 : HC) (t : TC) (g : GC) (S : Nat → Int32) (N : Nat) (x : Int32) (hG : Gd S N) (rS : HR S N h1) : MI l D q tt yX4_stir wsX4_stir ({ frames := 4, cells := 0, slots := 0, locals := 101 } : Room) [.ref ((B 0) 0), .int x] (ow q B o ++ (hw q (B 1) h1 ++ (hw q (B 2) h2 ++ (hw q (B 3) h3 ++ (tw q (B 4) t ++ (sw q (B 5) g)))))) (fun (r : Int32) (u : HC) => r = R_stir S N x) (fun u => (ow q B o ++ (hw q (B 1) h1 ++ (hw q (B 2) u ++ (hw q (B 3) h3 ++ (tw q (B 4) t ++ (sw q (B 5) g))))))) 0 0 := by
  refine MI.of RX4 [(0, .ref ((B 0) 0)), (1, .int x)] (by decide) rfl rfl (Nat.le_of_ble_eq_true rfl) rfl ?_
  intro p e s m args below meth c A C hr hnm
  have w_0 : ∀ w ∈ u_ws RX4 TX4 11, w ∈ wsX4_stir := by decide +kernel
  have w_1 : Cond.fieldLink RX4 16 (TX4 1).1 (TX4 1).2.1 (TX4 1).2.2.1 ∈ wsX4_stir := by decide +kernel
  have w_2 : ∀ w ∈ u_ws RX0 TX0 11, w ∈ wsX4_stir := by decide +kernel
  have w_3 : Cond.fieldLink RX4 152 (TX0 6).1 (TX0 6).2.1 (TX0 6).2.2.1 ∈ wsX4_stir := by decide +kernel
  have w_4 : Cond.fieldLink RX4 10 (TX4 0).1 (TX4 0).2.1 (TX4 0).2.2.1 ∈ wsX4_stir := by decide +kernel
  have w_5 : Cond.fieldLink RX4 74 (TX0 8).1 (TX0 8).2.1 (TX0 8).2.2.1 ∈ wsX4_stir := by decide +kernel
  have h8 := hG.le
  have hS0 := hG.n
  refine g_iloadn C dX4_stir_0 1 rfl rfl ?_
  refine g_iconst C 1 dX4_stir_1 (by decide) ?_
  refine g_bipush C 30 dX4_stir_2 (by decide) ?_
  refine g_call0i C (rd_S C (k_X4_within l D q tt x 1 30 ) gX4_stir_X4_within rfl rfl rfl 3 ok_X4_within (rest := []) rfl rfl (Nat.le_of_ble_eq_true rfl) dX4_stir_4 ⟨(Nat.le_of_ble_eq_true rfl), (Nat.le_of_ble_eq_true rfl)⟩ ⟨(Nat.le_of_ble_eq_true rfl), (Nat.le_of_ble_eq_true rfl)⟩) (fun _ => rfl) (fun r_4 _ h_4 => ?_)
  obtain rfl := h_4
  refine g_ifneE C 12 dX4_stir_7 rfl rfl (fun c_7 => ?_) (fun c_7 => ?_)
  · obtain ⟨j, hj, ej, ec⟩ := ix_le (n := 30) (by omega) ⟨Int32.le_trans (by decide) c_7.1, c_7.2⟩
    refine g_aloadn C dX4_stir_12 0 rfl rfl ?_
    refine g_callAv C (rd_V C (k_X4_tryFromNow l D q tt B o h1 h2 h3 t g ) gX4_stir_X4_tryFromNow rfl rfl rfl 0 ok_X4_tryFromNow rfl 0 rfl rfl (rest := []) rfl rfl (Nat.le_of_ble_eq_true rfl) dX4_stir_13 ⟨(Nat.le_of_ble_eq_true rfl), (Nat.le_of_ble_eq_true rfl)⟩ ⟨(Nat.le_of_ble_eq_true rfl), (Nat.le_of_ble_eq_true rfl)⟩) (fun u_13 h_13 => ?_)
    have tr_13 := h_13
    refine g_aloadn C dX4_stir_16 0 rfl rfl ?_
    refine g_get C fx4 w_0 0 1 (v := .ref ((B 2) 0)) rfl (by decide) w_1 rfl dX4_stir_17 ?_
    refine g_iconst C 1 dX4_stir_20 (by decide) ?_
    refine g_callWv (w1 := (ow q B o ++ (hw q (B 1) h1 ++ (hw q (B 2) u_13 ++ (hw q (B 3) h3 ++ (tw q (B 4) t ++ (sw q (B 5) g))))))) (wr := ([0, 1, 2, 3, 4, 5, 6, 7, 8, 9, 10, 11, 12, 21, 22, 23, 24, 25, 26, 27, 28, 29, 30, 31, 32] : List Nat).filterMap (fun i => (ow q B o ++ (hw q (B 1) h1 ++ (hw q (B 2) u_13 ++ (hw q (B 3) h3 ++ (tw q (B 4) t ++ (sw q (B 5) g))))))[i]?)) (isC := [13, 14, 15, 16, 17, 18, 19, 20]) (isR := [0, 1, 2, 3, 4, 5, 6, 7, 8, 9, 10, 11, 12, 21, 22, 23, 24, 25, 26, 27, 28, 29, 30, 31, 32]) (pm := [0, 1, 2, 3, 4, 5, 6, 7, 8, 9, 10, 11, 12, 25, 26, 27, 28, 29, 30, 31, 32, 13, 14, 15, 16, 17, 18, 19, 20, 21, 22, 23, 24]) (w1' := (fun u_21 => (ow q B o ++ (hw q (B 1) h1 ++ (hw q (B 2) u_21 ++ (hw q (B 3) h3 ++ (tw q (B 4) t ++ (sw q (B 5) g)))))))) C (rd_V C (k_X0_pass l D q tt (B 2) u_13 S N 1 (by first | assumption | omega) (tr_13 S N hG rS) (by first | assumption | omega)) gX4_stir_X0_pass rfl rfl rfl 1 ok_X0_pass rfl 0 rfl rfl (rest := []) rfl rfl (Nat.le_of_ble_eq_true rfl) dX4_stir_21 ⟨(Nat.le_of_ble_eq_true rfl), (Nat.le_of_ble_eq_true rfl)⟩ ⟨(Nat.le_of_ble_eq_true rfl), (Nat.le_of_ble_eq_true rfl)⟩) rfl rfl rfl (fun _ => rfl) rfl (fun u_21 h_21 => ?_)
    have rS_21 := h_21
    refine g_aloadn C dX4_stir_24 0 rfl rfl ?_
    refine g_get C fx4 w_0 0 1 (v := .ref ((B 2) 0)) rfl (by decide) w_1 rfl dX4_stir_25 ?_
    refine g_get C fx0 w_2 13 6 (v := .int (hC u_21)) rfl (by decide) w_3 rfl dX4_stir_28 ?_
    refine g_topci (nI (clN (goS S N) N)) (rS_21.c) ?_
    refine g_call0i C (rd_S C (k_J6_bitCount_0f7a4 l D q tt (clN (goS S N) N) (clN_256 h8)) gX4_stir_J6_bitCount_0f7a4 rfl rfl rfl 1 ok_J6_bitCount_0f7a4 (rest := []) rfl rfl (Nat.le_of_ble_eq_true rfl) dX4_stir_31 ⟨(Nat.le_of_ble_eq_true rfl), (Nat.le_of_ble_eq_true rfl)⟩ ⟨(Nat.le_of_ble_eq_true rfl), (Nat.le_of_ble_eq_true rfl)⟩) (fun _ => rfl) (fun r_31 _ h_31 => ?_)
    obtain rfl := h_31
    refine g_istoren C [(2, .int (nI (pop (clN (goS S N) N)))), (0, .ref ((B 0) 0)), (1, .int x)] dX4_stir_34 rfl (by decide) rfl ?_
    refine g_aloadn C dX4_stir_35 1 rfl rfl ?_
    refine g_get C fx4 w_0 0 0 (v := .ref ((B 1) 0)) rfl (by decide) w_4 rfl dX4_stir_36 ?_
    refine g_get C fx0 w_2 5 8 (v := .int (hZ h1)) rfl (by decide) w_5 rfl dX4_stir_39 ?_
    refine g_topci (S 2) (rS.z) ?_
    refine g_istoren C [(3, .int (S 2)), (2, .int (nI (pop (clN (goS S N) N)))), (0, .ref ((B 0) 0)), (1, .int x)] dX4_stir_42 rfl (by decide) rfl ?_
    refine g_iconst C 0 dX4_stir_43 (by decide) ?_
    refine g_istore C [(4, .int 0), (3, .int (S 2)), (2, .int (nI (pop (clN (goS S N) N)))), (0, .ref ((B 0) 0)), (1, .int x)] dX4_stir_44 (by decide) rfl ?_
    refine g_iconst C 0 dX4_stir_46 (by decide) ?_
    refine g_istore C [(5, .int 0), (4, .int 0), (3, .int (S 2)), (2, .int (nI (pop (clN (goS S N) N)))), (0, .ref ((B 0) 0)), (1, .int x)] dX4_stir_47 (by decide) rfl ?_
    have J_49 : ∀ (fu : Nat) (i : Nat) (k : HC), j - i < fu → (i ≤ j) → G p l e ({ frames := 4, cells := 0, slots := 0, locals := 101 } : Room) s m args below meth c 6 D A (MQ below (va_Qi (fun (r : Int32) (u : HC) => r = R_stir S N x) (Bw D A (fun u => (ow q B o ++ (hw q (B 1) h1 ++ (hw q (B 2) u ++ (hw q (B 3) h3 ++ (tw q (B 4) t ++ (sw q (B 5) g)))))))) A) args s 0 0 A) 49 [(0, .ref ((B 0) 0)), (1, .int x), (2, .int (nI (pop (clN (goS S N) N)))), (3, .int ((stL S N (nI (pop (clN (goS S N) N))) i).1)), (4, .int ((stL S N (nI (pop (clN (goS S N) N))) i).2)), (5, .int (nI i))] [] (ow q B o ++ (hw q (B 1) h1 ++ (hw q (B 2) k ++ (hw q (B 3) h3 ++ (tw q (B 4) t ++ (sw q (B 5) g)))))) 0 0 := by
      intro fu
      induction fu with
      | zero =>
        intro i k hfu
        exact absurd hfu (Nat.not_lt_zero _)
      | succ fu ih =>
        intro i k hfu hi
        refine g_iload C dX4_stir_49 5 rfl ?_
        refine g_iloadn C dX4_stir_51 1 rfl rfl ?_
        refine g_topci (nI j) (ej) ?_
        refine g_icmpN_ge C 105 (i) (j) dX4_stir_52 rfl (by omega) (by omega) (fun c_52 => ?_) (fun c_52 => ?_)
        · refine g_iload C dX4_stir_105 4 rfl ?_
          exact g_iret C k hr dX4_stir_107 (Nat.le_of_ble_eq_true rfl) (Nat.le_of_ble_eq_true rfl) rfl (by unfold R_stir; (try simp only [hS0]); (repeat' split) <;> first | rfl | (rw [ec, show j = i by omega]; done) | (exfalso; simp only [lg_lt0, lg_gt0, w_le, w_lt, Int32.lt_iff_toInt_lt, Int32.le_iff_toInt_le, ← Int32.toInt_inj, tI_0, tI_1, tI_2, tI_3, tI_4, tI_5, tI_6, tI_7, tI_8, tI_9, tI_10, tI_13, tI_19, tI_20, tI_30, tI_32, tI_40, tI_48, tI_57, tI_59, tI_60, tI_97, tI_99, tI_100, tI_122, tI_200, tI_m1, tI_m2, tI_m3, tI_39, not_and, not_or] at * <;> omega))
        · refine g_aloadn C dX4_stir_55 0 rfl rfl ?_
          refine g_callAv C (rd_V C (k_X4_tryFromNow l D q tt B o h1 k h3 t g ) gX4_stir_X4_tryFromNow rfl rfl rfl 0 ok_X4_tryFromNow rfl 0 rfl rfl (rest := []) rfl rfl (Nat.le_of_ble_eq_true rfl) dX4_stir_56 ⟨(Nat.le_of_ble_eq_true rfl), (Nat.le_of_ble_eq_true rfl)⟩ ⟨(Nat.le_of_ble_eq_true rfl), (Nat.le_of_ble_eq_true rfl)⟩) (fun u_56 h_56 => ?_)
          have tr_56 := h_56
          refine g_aloadn C dX4_stir_59 0 rfl rfl ?_
          refine g_get C fx4 w_0 0 1 (v := .ref ((B 2) 0)) rfl (by decide) w_1 rfl dX4_stir_60 ?_
          refine g_iloadn C dX4_stir_63 3 rfl rfl ?_
          refine g_put C fx0 w_2 13 8 rfl (by decide) w_5 rfl rfl rfl (Nat.le_of_ble_eq_true rfl) dX4_stir_64 (ow q B o ++ (hw q (B 1) h1 ++ (hw q (B 2) ((hL u_56), (hK u_56), (hP u_56), (hE u_56), (hR u_56), (hN u_56), (hC u_56), (hM u_56), ((stL S N (nI (pop (clN (goS S N) N))) i).1), (hJ u_56), (hH u_56)) ++ (hw q (B 3) h3 ++ (tw q (B 4) t ++ (sw q (B 5) g)))))) rfl ?_
          refine g_aloadn C dX4_stir_67 0 rfl rfl ?_
          refine g_get C fx4 w_0 0 1 (v := .ref ((B 2) 0)) rfl (by decide) w_1 rfl dX4_stir_68 ?_
          refine g_callWv (w1 := (ow q B o ++ (hw q (B 1) h1 ++ (hw q (B 2) ((hL u_56), (hK u_56), (hP u_56), (hE u_56), (hR u_56), (hN u_56), (hC u_56), (hM u_56), ((stL S N (nI (pop (clN (goS S N) N))) i).1), (hJ u_56), (hH u_56)) ++ (hw q (B 3) h3 ++ (tw q (B 4) t ++ (sw q (B 5) g))))))) (wr := ([0, 1, 2, 3, 4, 5, 6, 7, 8, 9, 10, 11, 12, 21, 22, 23, 24, 25, 26, 27, 28, 29, 30, 31, 32] : List Nat).filterMap (fun ix_ => (ow q B o ++ (hw q (B 1) h1 ++ (hw q (B 2) ((hL u_56), (hK u_56), (hP u_56), (hE u_56), (hR u_56), (hN u_56), (hC u_56), (hM u_56), ((stL S N (nI (pop (clN (goS S N) N))) i).1), (hJ u_56), (hH u_56)) ++ (hw q (B 3) h3 ++ (tw q (B 4) t ++ (sw q (B 5) g))))))[ix_]?)) (isC := [13, 14, 15, 16, 17, 18, 19, 20]) (isR := [0, 1, 2, 3, 4, 5, 6, 7, 8, 9, 10, 11, 12, 21, 22, 23, 24, 25, 26, 27, 28, 29, 30, 31, 32]) (pm := [0, 1, 2, 3, 4, 5, 6, 7, 8, 9, 10, 11, 12, 25, 26, 27, 28, 29, 30, 31, 32, 13, 14, 15, 16, 17, 18, 19, 20, 21, 22, 23, 24]) (w1' := (fun u_71 => (ow q B o ++ (hw q (B 1) h1 ++ (hw q (B 2) u_71 ++ (hw q (B 3) h3 ++ (tw q (B 4) t ++ (sw q (B 5) g)))))))) C (rd_V C (k_X0_passByDraws l D q tt (B 2) ((hL u_56), (hK u_56), (hP u_56), (hE u_56), (hR u_56), (hN u_56), (hC u_56), (hM u_56), ((stL S N (nI (pop (clN (goS S N) N))) i).1), (hJ u_56), (hH u_56)) (upd S 2 ((stL S N (nI (pop (clN (goS S N) N))) i).1)) N (hG.z _) (hr_z _ (tr_56 S N hG rS))) gX4_stir_X0_passByDraws rfl rfl rfl 0 ok_X0_passByDraws rfl 0 rfl rfl (rest := []) rfl rfl (Nat.le_of_ble_eq_true rfl) dX4_stir_71 ⟨(Nat.le_of_ble_eq_true rfl), (Nat.le_of_ble_eq_true rfl)⟩ ⟨(Nat.le_of_ble_eq_true rfl), (Nat.le_of_ble_eq_true rfl)⟩) rfl rfl rfl (fun _ => rfl) rfl (fun u_71 h_71 => ?_)
          have rS_71 := h_71
          refine g_wsc (ow q B o ++ (hw q (B 1) h1 ++ (hw q (B 2) u_71 ++ (hw q (B 3) h3 ++ (tw q (B 4) t ++ (sw q (B 5) g)))))) rfl ?_
          refine g_aloadn C dX4_stir_74 0 rfl rfl ?_
          refine g_get C fx4 w_0 0 1 (v := .ref ((B 2) 0)) rfl (by decide) w_1 rfl dX4_stir_75 ?_
          refine g_get C fx0 w_2 13 8 (v := .int (hZ u_71)) rfl (by decide) w_5 rfl dX4_stir_78 ?_
          refine g_topci ((stL S N (nI (pop (clN (goS S N) N))) (i + 1)).1) (rS_71.z) ?_
          refine g_istoren C [(3, .int ((stL S N (nI (pop (clN (goS S N) N))) (i + 1)).1)), (0, .ref ((B 0) 0)), (1, .int x), (2, .int (nI (pop (clN (goS S N) N)))), (4, .int ((stL S N (nI (pop (clN (goS S N) N))) i).2)), (5, .int (nI i))] dX4_stir_81 rfl (by decide) rfl ?_
          refine g_aloadn C dX4_stir_82 1 rfl rfl ?_
          refine g_get C fx4 w_0 0 1 (v := .ref ((B 2) 0)) rfl (by decide) w_1 rfl dX4_stir_83 ?_
          refine g_get C fx0 w_2 13 6 (v := .int (hC u_71)) rfl (by decide) w_3 rfl dX4_stir_86 ?_
          refine g_topci (nI (clN (mnS (upd S 2 ((stL S N (nI (pop (clN (goS S N) N))) i).1)) N) N)) (rS_71.c) ?_
          refine g_call0i C (rd_S C (k_J6_bitCount_0f7a4 l D q tt (clN (mnS (upd S 2 ((stL S N (nI (pop (clN (goS S N) N))) i).1)) N) N) (clN_256 h8)) gX4_stir_J6_bitCount_0f7a4 rfl rfl rfl 1 ok_J6_bitCount_0f7a4 (rest := []) rfl rfl (Nat.le_of_ble_eq_true rfl) dX4_stir_89 ⟨(Nat.le_of_ble_eq_true rfl), (Nat.le_of_ble_eq_true rfl)⟩ ⟨(Nat.le_of_ble_eq_true rfl), (Nat.le_of_ble_eq_true rfl)⟩) (fun _ => rfl) (fun r_89 _ h_89 => ?_)
          obtain rfl := h_89
          refine g_iloadn C dX4_stir_92 3 rfl rfl ?_
          refine g_icmp_le C 99 dX4_stir_93 rfl (fun c_93 => ?_) (fun c_93 => ?_)
          · refine g_lvc 4 (lv' := [(3, .int ((stL S N (nI (pop (clN (goS S N) N))) (i + 1)).1)), (0, .ref ((B 0) 0)), (1, .int x), (2, .int (nI (pop (clN (goS S N) N)))), (4, .int ((stL S N (nI (pop (clN (goS S N) N))) (i + 1)).2)), (5, .int (nI i))]) (by rw [show ((stL S N (nI (pop (clN (goS S N) N))) i).2) = ((stL S N (nI (pop (clN (goS S N) N))) (i + 1)).2) from by show _ = (stL S N (nI (pop (clN (goS S N) N))) i).2 + (if _ then 1 else 0); rw [if_neg (Int32.not_lt.mpr c_93)]; simp]) ?_
            refine g_iinc C (nI (i + 1)) [(5, .int (nI (i + 1))), (3, .int ((stL S N (nI (pop (clN (goS S N) N))) (i + 1)).1)), (0, .ref ((B 0) 0)), (1, .int x), (2, .int (nI (pop (clN (goS S N) N)))), (4, .int ((stL S N (nI (pop (clN (goS S N) N))) (i + 1)).2))] dX4_stir_99 5 rfl (nI_add i 1) (by decide) rfl ?_
            refine g_goto C 49 dX4_stir_102 rfl ?_
            refine g_sub [2, 3, 4, 1, 5, 0] (lv' := [(0, .ref ((B 0) 0)), (1, .int x), (2, .int (nI (pop (clN (goS S N) N)))), (3, .int ((stL S N (nI (pop (clN (goS S N) N))) (i + 1)).1)), (4, .int ((stL S N (nI (pop (clN (goS S N) N))) (i + 1)).2)), (5, .int (nI (i + 1)))]) rfl ?_
            exact ih ((i + 1)) (u_71) (by omega) (by first | assumption | omega)
          · refine g_iinc C (((stL S N (nI (pop (clN (goS S N) N))) i).2) + 1) [(4, .int (((stL S N (nI (pop (clN (goS S N) N))) i).2) + 1)), (3, .int ((stL S N (nI (pop (clN (goS S N) N))) (i + 1)).1)), (0, .ref ((B 0) 0)), (1, .int x), (2, .int (nI (pop (clN (goS S N) N)))), (5, .int (nI i))] dX4_stir_96 4 rfl rfl (by decide) rfl ?_
            refine g_lvc 0 (lv' := [(4, .int ((stL S N (nI (pop (clN (goS S N) N))) (i + 1)).2)), (3, .int ((stL S N (nI (pop (clN (goS S N) N))) (i + 1)).1)), (0, .ref ((B 0) 0)), (1, .int x), (2, .int (nI (pop (clN (goS S N) N)))), (5, .int (nI i))]) (by rw [show (((stL S N (nI (pop (clN (goS S N) N))) i).2) + 1) = ((stL S N (nI (pop (clN (goS S N) N))) (i + 1)).2) from by show _ = (stL S N (nI (pop (clN (goS S N) N))) i).2 + (if _ then 1 else 0); rw [if_pos (Int32.not_le.mp c_93)]]) ?_
            refine g_iinc C (nI (i + 1)) [(5, .int (nI (i + 1))), (4, .int ((stL S N (nI (pop (clN (goS S N) N))) (i + 1)).2)), (3, .int ((stL S N (nI (pop (clN (goS S N) N))) (i + 1)).1)), (0, .ref ((B 0) 0)), (1, .int x), (2, .int (nI (pop (clN (goS S N) N))))] dX4_stir_99 5 rfl (nI_add i 1) (by decide) rfl ?_
            refine g_goto C 49 dX4_stir_102 rfl ?_
            refine g_sub [3, 4, 5, 2, 1, 0] (lv' := [(0, .ref ((B 0) 0)), (1, .int x), (2, .int (nI (pop (clN (goS S N) N)))), (3, .int ((stL S N (nI (pop (clN (goS S N) N))) (i + 1)).1)), (4, .int ((stL S N (nI (pop (clN (goS S N) N))) (i + 1)).2)), (5, .int (nI (i + 1)))]) rfl ?_
            exact ih ((i + 1)) (u_71) (by omega) (by first | assumption | omega)
    refine g_sub [4, 5, 3, 2, 1, 0] (lv' := [(0, .ref ((B 0) 0)), (1, .int x), (2, .int (nI (pop (clN (goS S N) N)))), (3, .int (S 2)), (4, .int 0), (5, .int 0)]) rfl ?_
    exact J_49 _ (0) (u_21) (Nat.lt_succ_self _) (by first | assumption | omega)
  · refine g_iconst C (-1) dX4_stir_10 (by decide) ?_
    exact g_iret C h2 hr dX4_stir_11 (Nat.le_of_ble_eq_true rfl) (Nat.le_of_ble_eq_true rfl) rfl (by unfold R_stir; (try simp only [hS0]); (repeat' split) <;> first | rfl | (rw [ec, show j = i by omega]; done) | (exfalso; simp only [lg_lt0, lg_gt0, w_le, w_lt, Int32.lt_iff_toInt_lt, Int32.le_iff_toInt_le, ← Int32.toInt_inj, tI_0, tI_1, tI_2, tI_3, tI_4, tI_5, tI_6, tI_7, tI_8, tI_9, tI_10, tI_13, tI_19, tI_20, tI_30, tI_32, tI_40, tI_48, tI_57, tI_59, tI_60, tI_97, tI_99, tI_100, tI_122, tI_200, tI_m1, tI_m2, tI_m3, tI_39, not_and, not_or] at * <;> omega))

