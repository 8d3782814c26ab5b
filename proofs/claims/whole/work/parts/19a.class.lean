set_option maxRecDepth 100000 in
set_option maxHeartbeats 4000000 in
theorem k_X4_pbRoom (l : Launch) (D : va_G) (q : Nat → ClassId) (tt : Nat → Nat) (B : Nat → Nat → Nat) (o : OC) (h1 : HC) (h2 : HC) (h3 : HC) (t : TC) (g : GC) (S : Nat → Int32) (N : Nat) (x : Int32) (y : Int32) (hG : Gd S N) (rS : HR S N h1) : MI l D q tt yX4_proudestBy wsX4_proudestBy ({ frames := 4, cells := 0, slots := 0, locals := 101 } : Room) [.ref ((B 0) 0), .ref ((B 2) 5), .int 8, .int x, .int y] (ow q B o ++ (hw q (B 1) h1 ++ (hw q (B 2) h2 ++ (hw q (B 3) h3 ++ (tw q (B 4) t ++ (sw q (B 5) g)))))) (fun (r : Int32) (u : HC) => r = (R_by S N 3 8 x y)) (fun u => (ow q B o ++ (hw q (B 1) h1 ++ (hw q (B 2) u ++ (hw q (B 3) h3 ++ (tw q (B 4) t ++ (sw q (B 5) g))))))) 0 0 := by
  refine MI.of RX4 [(0, .ref ((B 0) 0)), (1, .ref ((B 2) 5)), (2, .int 8), (3, .int x), (4, .int y)] (by decide) rfl rfl (Nat.le_of_ble_eq_true rfl) rfl ?_
  intro p e s m args below meth c A C hr hnm
  have w_0 : ∀ w ∈ u_ws RX4 TX4 11, w ∈ wsX4_proudestBy := by decide +kernel
  have w_1 : Cond.fieldLink RX4 10 (TX4 0).1 (TX4 0).2.1 (TX4 0).2.2.1 ∈ wsX4_proudestBy := by decide +kernel
  have w_2 : Cond.fieldLink RX4 16 (TX4 1).1 (TX4 1).2.1 (TX4 1).2.2.1 ∈ wsX4_proudestBy := by decide +kernel
  have w_3 : ∀ w ∈ u_ws RX0 TX0 11, w ∈ wsX4_proudestBy := by decide +kernel
  have w_4 : Cond.fieldLink RX4 123 (TX0 2).1 (TX0 2).2.1 (TX0 2).2.2.1 ∈ wsX4_proudestBy := by decide +kernel
  have h8 := hG.le
  have hS0 := hG.n
  refine g_aloadn C dX4_proudestBy_0 0 rfl rfl ?_
  refine g_get C fx4 w_0 0 0 (v := .ref ((B 1) 0)) rfl (by decide) w_1 rfl dX4_proudestBy_1 ?_
  refine g_iloadn C dX4_proudestBy_4 3 rfl rfl ?_
  refine g_callWi (w1 := (ow q B o ++ (hw q (B 1) h1 ++ (hw q (B 2) h2 ++ (hw q (B 3) h3 ++ (tw q (B 4) t ++ (sw q (B 5) g))))))) (wr := ([0, 1, 2, 3, 4, 13, 14, 15, 16, 17, 18, 19, 20, 21, 22, 23, 24, 25, 26, 27, 28, 29, 30, 31, 32] : List Nat).filterMap (fun i => (ow q B o ++ (hw q (B 1) h1 ++ (hw q (B 2) h2 ++ (hw q (B 3) h3 ++ (tw q (B 4) t ++ (sw q (B 5) g))))))[i]?)) (isC := [5, 6, 7, 8, 9, 10, 11, 12]) (isR := [0, 1, 2, 3, 4, 13, 14, 15, 16, 17, 18, 19, 20, 21, 22, 23, 24, 25, 26, 27, 28, 29, 30, 31, 32]) (pm := [0, 1, 2, 3, 4, 25, 26, 27, 28, 29, 30, 31, 32, 5, 6, 7, 8, 9, 10, 11, 12, 13, 14, 15, 16, 17, 18, 19, 20, 21, 22, 23, 24]) (w1' := (fun _ => (ow q B o ++ (hw q (B 1) h1 ++ (hw q (B 2) h2 ++ (hw q (B 3) h3 ++ (tw q (B 4) t ++ (sw q (B 5) g)))))))) C (rd_V C (k_X0_has l D q tt (B 1) h1 S N x (by first | assumption | omega) (by first | assumption | omega)) gX4_proudestBy_X0_has rfl rfl rfl 1 ok_X0_has rfl 0 rfl rfl (rest := []) rfl rfl (Nat.le_of_ble_eq_true rfl) dX4_proudestBy_5 ⟨(Nat.le_of_ble_eq_true rfl), (Nat.le_of_ble_eq_true rfl)⟩ ⟨(Nat.le_of_ble_eq_true rfl), (Nat.le_of_ble_eq_true rfl)⟩) rfl rfl rfl (fun _ => rfl) rfl (fun r_5 _ h_5 => ?_)
  obtain rfl := h_5
  refine g_ifeqE C 28 dX4_proudestBy_8 rfl rfl (fun c_8 => ?_) (fun c_8 => ?_)
  · refine g_iconst C (-1) dX4_proudestBy_28 (by decide) ?_
    exact g_iret C h2 hr dX4_proudestBy_29 (Nat.le_of_ble_eq_true rfl) (Nat.le_of_ble_eq_true rfl) rfl (by unfold R_by; (try simp only [hS0]); (repeat' split) <;> first | (rw [ec, ed, show i = 8 by omega]; done) | with_reducible rfl | (exfalso; simp only [lg_lt0, lg_gt0, w_le, w_lt, Int32.lt_iff_toInt_lt, Int32.le_iff_toInt_le, ← Int32.toInt_inj, tI_0, tI_1, tI_2, tI_3, tI_4, tI_5, tI_6, tI_7, tI_8, tI_9, tI_10, tI_13, tI_19, tI_20, tI_30, tI_32, tI_40, tI_48, tI_57, tI_59, tI_60, tI_97, tI_99, tI_100, tI_122, tI_200, tI_m1, tI_m2, tI_m3, tI_39, not_and, not_or] at * <;> omega))
  · obtain ⟨j, hj, ej, ec⟩ := ix_lt (by omega) c_8
    refine g_iloadn C dX4_proudestBy_11 3 rfl rfl ?_
    refine g_topci (nI j) (ej) ?_
    refine g_aloadn C dX4_proudestBy_12 1 rfl rfl ?_
    refine g_alen C 18 8 rfl (t0 := 0) rfl rfl dX4_proudestBy_13 ?_
    refine g_icmpN_ge C 28 (j) (8) dX4_proudestBy_14 rfl (by omega) (by omega) (fun c_14 => ?_) (fun c_14 => ?_)
    · refine g_iconst C (-1) dX4_proudestBy_28 (by decide) ?_
      exact g_iret C h2 hr dX4_proudestBy_29 (Nat.le_of_ble_eq_true rfl) (Nat.le_of_ble_eq_true rfl) rfl (by exfalso; omega)
    · refine g_iload C dX4_proudestBy_17 4 rfl ?_
      refine g_iconst C 1 dX4_proudestBy_19 (by decide) ?_
      refine g_bipush C 20 dX4_proudestBy_20 (by decide) ?_
      refine g_call0i C (rd_S C (k_X4_within l D q tt y 1 20 ) gX4_proudestBy_X4_within rfl rfl rfl 3 ok_X4_within (rest := []) rfl rfl (Nat.le_of_ble_eq_true rfl) dX4_proudestBy_22 ⟨(Nat.le_of_ble_eq_true rfl), (Nat.le_of_ble_eq_true rfl)⟩ ⟨(Nat.le_of_ble_eq_true rfl), (Nat.le_of_ble_eq_true rfl)⟩) (fun _ => rfl) (fun r_22 _ h_22 => ?_)
      obtain rfl := h_22
      refine g_ifneE C 30 dX4_proudestBy_25 rfl rfl (fun c_25 => ?_) (fun c_25 => ?_)
      · obtain ⟨n, hn, en, ed⟩ := ix_le (n := 20) (by omega) ⟨Int32.le_trans (by decide) c_25.1, c_25.2⟩
        refine g_iconst C 0 dX4_proudestBy_30 (by decide) ?_
        refine g_istore C [(5, .int 0), (0, .ref ((B 0) 0)), (1, .ref ((B 2) 5)), (2, .int 8), (3, .int x), (4, .int y)] dX4_proudestBy_31 (by decide) rfl ?_
        refine g_iconst C (-1) dX4_proudestBy_33 (by decide) ?_
        refine g_istore C [(6, .int (-1)), (5, .int 0), (0, .ref ((B 0) 0)), (1, .ref ((B 2) 5)), (2, .int 8), (3, .int x), (4, .int y)] dX4_proudestBy_34 (by decide) rfl ?_
        refine g_iconst C 0 dX4_proudestBy_36 (by decide) ?_
        refine g_istore C [(7, .int 0), (6, .int (-1)), (5, .int 0), (0, .ref ((B 0) 0)), (1, .ref ((B 2) 5)), (2, .int 8), (3, .int x), (4, .int y)] dX4_proudestBy_37 (by decide) rfl ?_
        have J_39 : ∀ (fu : Nat) (i : Nat) (k : HC), 8 - i < fu → (i ≤ 8) → G p l e ({ frames := 4, cells := 0, slots := 0, locals := 101 } : Room) s m args below meth c 8 D A (MQ below (va_Qi (fun (r : Int32) (u : HC) => r = (R_by S N 3 8 x y)) (Bw D A (fun u => (ow q B o ++ (hw q (B 1) h1 ++ (hw q (B 2) u ++ (hw q (B 3) h3 ++ (tw q (B 4) t ++ (sw q (B 5) g)))))))) A) args s 0 0 A) 39 [(0, .ref ((B 0) 0)), (1, .ref ((B 2) 5)), (2, .int 8), (3, .int x), (4, .int y), (5, .int ((pbL S N j (7 + 5 * j + 3) n i).1)), (6, .int ((pbL S N j (7 + 5 * j + 3) n i).2)), (7, .int (nI i))] [] (ow q B o ++ (hw q (B 1) h1 ++ (hw q (B 2) k ++ (hw q (B 3) h3 ++ (tw q (B 4) t ++ (sw q (B 5) g)))))) 0 0 := by
          intro fu
          induction fu with
          | zero =>
            intro i k hfu
            exact absurd hfu (Nat.not_lt_zero _)
          | succ fu ih =>
            intro i k hfu hi
            refine g_iload C dX4_proudestBy_39 7 rfl ?_
            refine g_iloadn C dX4_proudestBy_41 2 rfl rfl ?_
            refine g_icmpN_ge C 98 (i) (8) dX4_proudestBy_42 rfl (by omega) (by omega) (fun c_42 => ?_) (fun c_42 => ?_)
            · refine g_iload C dX4_proudestBy_98 5 rfl ?_
              exact g_iret C k hr dX4_proudestBy_100 (Nat.le_of_ble_eq_true rfl) (Nat.le_of_ble_eq_true rfl) rfl (by unfold R_by; (try simp only [hS0]); (repeat' split) <;> first | (rw [ec, ed, show i = 8 by omega]; done) | with_reducible rfl | (exfalso; simp only [lg_lt0, lg_gt0, w_le, w_lt, Int32.lt_iff_toInt_lt, Int32.le_iff_toInt_le, ← Int32.toInt_inj, tI_0, tI_1, tI_2, tI_3, tI_4, tI_5, tI_6, tI_7, tI_8, tI_9, tI_10, tI_13, tI_19, tI_20, tI_30, tI_32, tI_40, tI_48, tI_57, tI_59, tI_60, tI_97, tI_99, tI_100, tI_122, tI_200, tI_m1, tI_m2, tI_m3, tI_39, not_and, not_or] at * <;> omega))
            · refine g_aloadn C dX4_proudestBy_45 0 rfl rfl ?_
              refine g_callAv C (rd_V C (k_X4_tryFromNow l D q tt B o h1 k h3 t g ) gX4_proudestBy_X4_tryFromNow rfl rfl rfl 0 ok_X4_tryFromNow rfl 0 rfl rfl (rest := []) rfl rfl (Nat.le_of_ble_eq_true rfl) dX4_proudestBy_46 ⟨(Nat.le_of_ble_eq_true rfl), (Nat.le_of_ble_eq_true rfl)⟩ ⟨(Nat.le_of_ble_eq_true rfl), (Nat.le_of_ble_eq_true rfl)⟩) (fun u_46 h_46 => ?_)
              have tr_46 := h_46
              refine g_aloadn C dX4_proudestBy_49 1 rfl rfl ?_
              refine g_iloadn C dX4_proudestBy_50 3 rfl rfl ?_
              refine g_topci (nI j) (ej) ?_
              refine g_iload C dX4_proudestBy_51 7 rfl ?_
              refine g_iast C 18 (j) (f := (hR u_46)) rfl rfl (by omega) (by decide) dX4_proudestBy_53 (ow q B o ++ (hw q (B 1) h1 ++ (hw q (B 2) ((hL u_46), (hK u_46), (hP u_46), (hE u_46), (upd (hR u_46) j (nI i)), (hN u_46), (hC u_46), (hM u_46), (hZ u_46), (hJ u_46), (hH u_46)) ++ (hw q (B 3) h3 ++ (tw q (B 4) t ++ (sw q (B 5) g)))))) rfl ?_
              refine g_aloadn C dX4_proudestBy_54 0 rfl rfl ?_
              refine g_get C fx4 w_0 0 1 (v := .ref ((B 2) 0)) rfl (by decide) w_2 rfl dX4_proudestBy_55 ?_
              refine g_iload C dX4_proudestBy_58 4 rfl ?_
              refine g_topci (nI n) (en) ?_
              refine g_callWv (w1 := (ow q B o ++ (hw q (B 1) h1 ++ (hw q (B 2) ((hL u_46), (hK u_46), (hP u_46), (hE u_46), (upd (hR u_46) j (nI i)), (hN u_46), (hC u_46), (hM u_46), (hZ u_46), (hJ u_46), (hH u_46)) ++ (hw q (B 3) h3 ++ (tw q (B 4) t ++ (sw q (B 5) g))))))) (wr := ([0, 1, 2, 3, 4, 5, 6, 7, 8, 9, 10, 11, 12, 21, 22, 23, 24, 25, 26, 27, 28, 29, 30, 31, 32] : List Nat).filterMap (fun ix_ => (ow q B o ++ (hw q (B 1) h1 ++ (hw q (B 2) ((hL u_46), (hK u_46), (hP u_46), (hE u_46), (upd (hR u_46) j (nI i)), (hN u_46), (hC u_46), (hM u_46), (hZ u_46), (hJ u_46), (hH u_46)) ++ (hw q (B 3) h3 ++ (tw q (B 4) t ++ (sw q (B 5) g))))))[ix_]?)) (isC := [13, 14, 15, 16, 17, 18, 19, 20]) (isR := [0, 1, 2, 3, 4, 5, 6, 7, 8, 9, 10, 11, 12, 21, 22, 23, 24, 25, 26, 27, 28, 29, 30, 31, 32]) (pm := [0, 1, 2, 3, 4, 5, 6, 7, 8, 9, 10, 11, 12, 25, 26, 27, 28, 29, 30, 31, 32, 13, 14, 15, 16, 17, 18, 19, 20, 21, 22, 23, 24]) (w1' := (fun u_60 => (ow q B o ++ (hw q (B 1) h1 ++ (hw q (B 2) u_60 ++ (hw q (B 3) h3 ++ (tw q (B 4) t ++ (sw q (B 5) g)))))))) C (rd_V C (k_X0_pass l D q tt (B 2) ((hL u_46), (hK u_46), (hP u_46), (hE u_46), (upd (hR u_46) j (nI i)), (hN u_46), (hC u_46), (hM u_46), (hZ u_46), (hJ u_46), (hH u_46)) (upd S (7 + 5 * j + 3) (nI i)) N n (hG.w3 (by omega)) (hr_r (tr_46 S N hG rS) (by omega)) (by first | assumption | omega)) gX4_proudestBy_X0_pass rfl rfl rfl 1 ok_X0_pass rfl 0 rfl rfl (rest := []) rfl rfl (Nat.le_of_ble_eq_true rfl) dX4_proudestBy_60 ⟨(Nat.le_of_ble_eq_true rfl), (Nat.le_of_ble_eq_true rfl)⟩ ⟨(Nat.le_of_ble_eq_true rfl), (Nat.le_of_ble_eq_true rfl)⟩) rfl rfl rfl (fun _ => rfl) rfl (fun u_60 h_60 => ?_)
              have rS_60 := h_60
              refine g_wsc (ow q B o ++ (hw q (B 1) h1 ++ (hw q (B 2) u_60 ++ (hw q (B 3) h3 ++ (tw q (B 4) t ++ (sw q (B 5) g)))))) rfl ?_
              refine g_aloadn C dX4_proudestBy_63 0 rfl rfl ?_
              refine g_get C fx4 w_0 0 1 (v := .ref ((B 2) 0)) rfl (by decide) w_2 rfl dX4_proudestBy_64 ?_
              refine g_get C fx0 w_3 13 2 (v := .ref ((B 2) 3)) rfl (by decide) w_4 rfl dX4_proudestBy_67 ?_
              refine g_iloadn C dX4_proudestBy_70 3 rfl rfl ?_
              refine g_topci (nI j) (ej) ?_
              refine g_iald C 16 (j) (f := (hP u_60)) rfl rfl (by omega) (by decide) dX4_proudestBy_71 ?_
              refine g_topci (sP (gosS (upd S (7 + 5 * j + 3) (nI i)) N n) j) (rS_60.P (by omega)) ?_
              refine g_iload C dX4_proudestBy_72 6 rfl ?_
              refine g_icmp_le C 92 dX4_proudestBy_74 rfl (fun c_74 => ?_) (fun c_74 => ?_)
              · refine g_lvc 5 (lv' := [(0, .ref ((B 0) 0)), (1, .ref ((B 2) 5)), (2, .int 8), (3, .int x), (4, .int y), (5, .int ((pbL S N j (7 + 5 * j + 3) n (i + 1)).1)), (6, .int ((pbL S N j (7 + 5 * j + 3) n i).2)), (7, .int (nI i))]) (by rw [show ((pbL S N j (7 + 5 * j + 3) n i).1) = ((pbL S N j (7 + 5 * j + 3) n (i + 1)).1) from by rw [pb_neg (Int32.not_lt.mpr c_74)]]) ?_
                refine g_lvc 6 (lv' := [(0, .ref ((B 0) 0)), (1, .ref ((B 2) 5)), (2, .int 8), (3, .int x), (4, .int y), (5, .int ((pbL S N j (7 + 5 * j + 3) n (i + 1)).1)), (6, .int ((pbL S N j (7 + 5 * j + 3) n (i + 1)).2)), (7, .int (nI i))]) (by rw [show ((pbL S N j (7 + 5 * j + 3) n i).2) = ((pbL S N j (7 + 5 * j + 3) n (i + 1)).2) from by rw [pb_neg (Int32.not_lt.mpr c_74)]]) ?_
                refine g_iinc C (nI (i + 1)) [(7, .int (nI (i + 1))), (0, .ref ((B 0) 0)), (1, .ref ((B 2) 5)), (2, .int 8), (3, .int x), (4, .int y), (5, .int ((pbL S N j (7 + 5 * j + 3) n (i + 1)).1)), (6, .int ((pbL S N j (7 + 5 * j + 3) n (i + 1)).2))] dX4_proudestBy_92 7 rfl (nI_add i 1) (by decide) rfl ?_
                refine g_goto C 39 dX4_proudestBy_95 rfl ?_
                refine g_sub [1, 2, 3, 4, 5, 6, 7, 0] (lv' := [(0, .ref ((B 0) 0)), (1, .ref ((B 2) 5)), (2, .int 8), (3, .int x), (4, .int y), (5, .int ((pbL S N j (7 + 5 * j + 3) n (i + 1)).1)), (6, .int ((pbL S N j (7 + 5 * j + 3) n (i + 1)).2)), (7, .int (nI (i + 1)))]) rfl ?_
                exact ih ((i + 1)) (u_60) (by omega) (by first | assumption | omega)
              · refine g_aloadn C dX4_proudestBy_77 0 rfl rfl ?_
                refine g_get C fx4 w_0 0 1 (v := .ref ((B 2) 0)) rfl (by decide) w_2 rfl dX4_proudestBy_78 ?_
                refine g_get C fx0 w_3 13 2 (v := .ref ((B 2) 3)) rfl (by decide) w_4 rfl dX4_proudestBy_81 ?_
                refine g_iloadn C dX4_proudestBy_84 3 rfl rfl ?_
                refine g_topci (nI j) (ej) ?_
                refine g_iald C 16 (j) (f := (hP u_60)) rfl rfl (by omega) (by decide) dX4_proudestBy_85 ?_
                refine g_topci (sP (gosS (upd S (7 + 5 * j + 3) (nI i)) N n) j) (rS_60.P (by omega)) ?_
                refine g_istore C [(6, .int (sP (gosS (upd S (7 + 5 * j + 3) (nI i)) N n) j)), (0, .ref ((B 0) 0)), (1, .ref ((B 2) 5)), (2, .int 8), (3, .int x), (4, .int y), (5, .int ((pbL S N j (7 + 5 * j + 3) n i).1)), (7, .int (nI i))] dX4_proudestBy_86 (by decide) rfl ?_
                refine g_iload C dX4_proudestBy_88 7 rfl ?_
                refine g_istore C [(5, .int (nI i)), (6, .int (sP (gosS (upd S (7 + 5 * j + 3) (nI i)) N n) j)), (0, .ref ((B 0) 0)), (1, .ref ((B 2) 5)), (2, .int 8), (3, .int x), (4, .int y), (7, .int (nI i))] dX4_proudestBy_90 (by decide) rfl ?_
                refine g_lvc 0 (lv' := [(5, .int ((pbL S N j (7 + 5 * j + 3) n (i + 1)).1)), (6, .int (sP (gosS (upd S (7 + 5 * j + 3) (nI i)) N n) j)), (0, .ref ((B 0) 0)), (1, .ref ((B 2) 5)), (2, .int 8), (3, .int x), (4, .int y), (7, .int (nI i))]) (by rw [show (nI i) = ((pbL S N j (7 + 5 * j + 3) n (i + 1)).1) from by rw [pb_pos (Int32.not_le.mp c_74)]]) ?_
                refine g_lvc 1 (lv' := [(5, .int ((pbL S N j (7 + 5 * j + 3) n (i + 1)).1)), (6, .int ((pbL S N j (7 + 5 * j + 3) n (i + 1)).2)), (0, .ref ((B 0) 0)), (1, .ref ((B 2) 5)), (2, .int 8), (3, .int x), (4, .int y), (7, .int (nI i))]) (by rw [show (sP (gosS (upd S (7 + 5 * j + 3) (nI i)) N n) j) = ((pbL S N j (7 + 5 * j + 3) n (i + 1)).2) from by rw [pb_pos (Int32.not_le.mp c_74)]]) ?_
                refine g_iinc C (nI (i + 1)) [(7, .int (nI (i + 1))), (5, .int ((pbL S N j (7 + 5 * j + 3) n (i + 1)).1)), (6, .int ((pbL S N j (7 + 5 * j + 3) n (i + 1)).2)), (0, .ref ((B 0) 0)), (1, .ref ((B 2) 5)), (2, .int 8), (3, .int x), (4, .int y)] dX4_proudestBy_92 7 rfl (nI_add i 1) (by decide) rfl ?_
                refine g_goto C 39 dX4_proudestBy_95 rfl ?_
                refine g_sub [3, 4, 5, 6, 7, 1, 2, 0] (lv' := [(0, .ref ((B 0) 0)), (1, .ref ((B 2) 5)), (2, .int 8), (3, .int x), (4, .int y), (5, .int ((pbL S N j (7 + 5 * j + 3) n (i + 1)).1)), (6, .int ((pbL S N j (7 + 5 * j + 3) n (i + 1)).2)), (7, .int (nI (i + 1)))]) rfl ?_
                exact ih ((i + 1)) (u_60) (by omega) (by first | assumption | omega)
        refine g_sub [3, 4, 5, 6, 7, 2, 1, 0] (lv' := [(0, .ref ((B 0) 0)), (1, .ref ((B 2) 5)), (2, .int 8), (3, .int x), (4, .int y), (5, .int 0), (6, .int (-1)), (7, .int 0)]) rfl ?_
        exact J_39 _ (0) (h2) (Nat.lt_succ_self _) (by first | assumption | omega)
      · refine g_iconst C (-1) dX4_proudestBy_28 (by decide) ?_
        exact g_iret C h2 hr dX4_proudestBy_29 (Nat.le_of_ble_eq_true rfl) (Nat.le_of_ble_eq_true rfl) rfl (by unfold R_by; (try simp only [hS0]); (repeat' split) <;> first | (rw [ec, ed, show i = 8 by omega]; done) | with_reducible rfl | (exfalso; simp only [lg_lt0, lg_gt0, w_le, w_lt, Int32.lt_iff_toInt_lt, Int32.le_iff_toInt_le, ← Int32.toInt_inj, tI_0, tI_1, tI_2, tI_3, tI_4, tI_5, tI_6, tI_7, tI_8, tI_9, tI_10, tI_13, tI_19, tI_20, tI_30, tI_32, tI_40, tI_48, tI_57, tI_59, tI_60, tI_97, tI_99, tI_100, tI_122, tI_200, tI_m1, tI_m2, tI_m3, tI_39, not_and, not_or] at * <;> omega))

set_option maxRecDepth 100000 in
set_option maxHeartbeats 4000000 in
theorem k_X4_pbKind (l : Launch) (D : va_G) (q : Nat → ClassId) (tt : Nat → Nat) (B : Nat → Nat → Nat) (o : OC) (h1 : HC) (h2 : HC) (h3 : HC) (t : TC) (g : GC) (S : Nat → Int32) (N : Nat) (x : Int32) (y : Int32) (hG : Gd S N) (rS : HR S N h1) : MI l D q tt yX4_proudestBy wsX4_proudestBy ({ frames := 4, cells := 0, slots := 0, locals := 101 } : Room) [.ref ((B 0) 0), .ref ((B 2) 2), .int 6, .int x, .int y] (ow q B o ++ (hw q (B 1) h1 ++ (hw q (B 2) h2 ++ (hw q (B 3) h3 ++ (tw q (B 4) t ++ (sw q (B 5) g)))))) (fun (r : Int32) (u : HC) => r = (R_by S N 0 6 x y)) (fun u => (ow q B o ++ (hw q (B 1) h1 ++ (hw q (B 2) u ++ (hw q (B 3) h3 ++ (tw q (B 4) t ++ (sw q (B 5) g))))))) 0 0 := by
  refine MI.of RX4 [(0, .ref ((B 0) 0)), (1, .ref ((B 2) 2)), (2, .int 6), (3, .int x), (4, .int y)] (by decide) rfl rfl (Nat.le_of_ble_eq_true rfl) rfl ?_
  intro p e s m args below meth c A C hr hnm
  have w_0 : ∀ w ∈ u_ws RX4 TX4 11, w ∈ wsX4_proudestBy := by decide +kernel
  have w_1 : Cond.fieldLink RX4 10 (TX4 0).1 (TX4 0).2.1 (TX4 0).2.2.1 ∈ wsX4_proudestBy := by decide +kernel
  have w_2 : Cond.fieldLink RX4 16 (TX4 1).1 (TX4 1).2.1 (TX4 1).2.2.1 ∈ wsX4_proudestBy := by decide +kernel
  have w_3 : ∀ w ∈ u_ws RX0 TX0 11, w ∈ wsX4_proudestBy := by decide +kernel
  have w_4 : Cond.fieldLink RX4 123 (TX0 2).1 (TX0 2).2.1 (TX0 2).2.2.1 ∈ wsX4_proudestBy := by decide +kernel
  have h8 := hG.le
  have hS0 := hG.n
  refine g_aloadn C dX4_proudestBy_0 0 rfl rfl ?_
  refine g_get C fx4 w_0 0 0 (v := .ref ((B 1) 0)) rfl (by decide) w_1 rfl dX4_proudestBy_1 ?_
  refine g_iloadn C dX4_proudestBy_4 3 rfl rfl ?_
  refine g_callWi (w1 := (ow q B o ++ (hw q (B 1) h1 ++ (hw q (B 2) h2 ++ (hw q (B 3) h3 ++ (tw q (B 4) t ++ (sw q (B 5) g))))))) (wr := ([0, 1, 2, 3, 4, 13, 14, 15, 16, 17, 18, 19, 20, 21, 22, 23, 24, 25, 26, 27, 28, 29, 30, 31, 32] : List Nat).filterMap (fun i => (ow q B o ++ (hw q (B 1) h1 ++ (hw q (B 2) h2 ++ (hw q (B 3) h3 ++ (tw q (B 4) t ++ (sw q (B 5) g))))))[i]?)) (isC := [5, 6, 7, 8, 9, 10, 11, 12]) (isR := [0, 1, 2, 3, 4, 13, 14, 15, 16, 17, 18, 19, 20, 21, 22, 23, 24, 25, 26, 27, 28, 29, 30, 31, 32]) (pm := [0, 1, 2, 3, 4, 25, 26, 27, 28, 29, 30, 31, 32, 5, 6, 7, 8, 9, 10, 11, 12, 13, 14, 15, 16, 17, 18, 19, 20, 21, 22, 23, 24]) (w1' := (fun _ => (ow q B o ++ (hw q (B 1) h1 ++ (hw q (B 2) h2 ++ (hw q (B 3) h3 ++ (tw q (B 4) t ++ (sw q (B 5) g)))))))) C (rd_V C (k_X0_has l D q tt (B 1) h1 S N x (by first | assumption | omega) (by first | assumption | omega)) gX4_proudestBy_X0_has rfl rfl rfl 1 ok_X0_has rfl 0 rfl rfl (rest := []) rfl rfl (Nat.le_of_ble_eq_true rfl) dX4_proudestBy_5 ⟨(Nat.le_of_ble_eq_true rfl), (Nat.le_of_ble_eq_true rfl)⟩ ⟨(Nat.le_of_ble_eq_true rfl), (Nat.le_of_ble_eq_true rfl)⟩) rfl rfl rfl (fun _ => rfl) rfl (fun r_5 _ h_5 => ?_)
  obtain rfl := h_5
  refine g_ifeqE C 28 dX4_proudestBy_8 rfl rfl (fun c_8 => ?_) (fun c_8 => ?_)
  · refine g_iconst C (-1) dX4_proudestBy_28 (by decide) ?_
    exact g_iret C h2 hr dX4_proudestBy_29 (Nat.le_of_ble_eq_true rfl) (Nat.le_of_ble_eq_true rfl) rfl (by unfold R_by; (try simp only [hS0]); (repeat' split) <;> first | (rw [ec, ed, show i = 6 by omega]; done) | with_reducible rfl | (exfalso; simp only [lg_lt0, lg_gt0, w_le, w_lt, Int32.lt_iff_toInt_lt, Int32.le_iff_toInt_le, ← Int32.toInt_inj, tI_0, tI_1, tI_2, tI_3, tI_4, tI_5, tI_6, tI_7, tI_8, tI_9, tI_10, tI_13, tI_19, tI_20, tI_30, tI_32, tI_40, tI_48, tI_57, tI_59, tI_60, tI_97, tI_99, tI_100, tI_122, tI_200, tI_m1, tI_m2, tI_m3, tI_39, not_and, not_or] at * <;> omega))
  · obtain ⟨j, hj, ej, ec⟩ := ix_lt (by omega) c_8
    refine g_iloadn C dX4_proudestBy_11 3 rfl rfl ?_
    refine g_topci (nI j) (ej) ?_
    refine g_aloadn C dX4_proudestBy_12 1 rfl rfl ?_
    refine g_alen C 15 8 rfl (t0 := 0) rfl rfl dX4_proudestBy_13 ?_
    refine g_icmpN_ge C 28 (j) (8) dX4_proudestBy_14 rfl (by omega) (by omega) (fun c_14 => ?_) (fun c_14 => ?_)
    · refine g_iconst C (-1) dX4_proudestBy_28 (by decide) ?_
      exact g_iret C h2 hr dX4_proudestBy_29 (Nat.le_of_ble_eq_true rfl) (Nat.le_of_ble_eq_true rfl) rfl (by exfalso; omega)
    · refine g_iload C dX4_proudestBy_17 4 rfl ?_
      refine g_iconst C 1 dX4_proudestBy_19 (by decide) ?_
      refine g_bipush C 20 dX4_proudestBy_20 (by decide) ?_
      refine g_call0i C (rd_S C (k_X4_within l D q tt y 1 20 ) gX4_proudestBy_X4_within rfl rfl rfl 3 ok_X4_within (rest := []) rfl rfl (Nat.le_of_ble_eq_true rfl) dX4_proudestBy_22 ⟨(Nat.le_of_ble_eq_true rfl), (Nat.le_of_ble_eq_true rfl)⟩ ⟨(Nat.le_of_ble_eq_true rfl), (Nat.le_of_ble_eq_true rfl)⟩) (fun _ => rfl) (fun r_22 _ h_22 => ?_)
      obtain rfl := h_22
      refine g_ifneE C 30 dX4_proudestBy_25 rfl rfl (fun c_25 => ?_) (fun c_25 => ?_)
      · obtain ⟨n, hn, en, ed⟩ := ix_le (n := 20) (by omega) ⟨Int32.le_trans (by decide) c_25.1, c_25.2⟩
        refine g_iconst C 0 dX4_proudestBy_30 (by decide) ?_
        refine g_istore C [(5, .int 0), (0, .ref ((B 0) 0)), (1, .ref ((B 2) 2)), (2, .int 6), (3, .int x), (4, .int y)] dX4_proudestBy_31 (by decide) rfl ?_
        refine g_iconst C (-1) dX4_proudestBy_33 (by decide) ?_
        refine g_istore C [(6, .int (-1)), (5, .int 0), (0, .ref ((B 0) 0)), (1, .ref ((B 2) 2)), (2, .int 6), (3, .int x), (4, .int y)] dX4_proudestBy_34 (by decide) rfl ?_
        refine g_iconst C 0 dX4_proudestBy_36 (by decide) ?_
        refine g_istore C [(7, .int 0), (6, .int (-1)), (5, .int 0), (0, .ref ((B 0) 0)), (1, .ref ((B 2) 2)), (2, .int 6), (3, .int x), (4, .int y)] dX4_proudestBy_37 (by decide) rfl ?_
        have J_39 : ∀ (fu : Nat) (i : Nat) (k : HC), 6 - i < fu → (i ≤ 6) → G p l e ({ frames := 4, cells := 0, slots := 0, locals := 101 } : Room) s m args below meth c 8 D A (MQ below (va_Qi (fun (r : Int32) (u : HC) => r = (R_by S N 0 6 x y)) (Bw D A (fun u => (ow q B o ++ (hw q (B 1) h1 ++ (hw q (B 2) u ++ (hw q (B 3) h3 ++ (tw q (B 4) t ++ (sw q (B 5) g)))))))) A) args s 0 0 A) 39 [(0, .ref ((B 0) 0)), (1, .ref ((B 2) 2)), (2, .int 6), (3, .int x), (4, .int y), (5, .int ((pbL S N j (7 + 5 * j + 0) n i).1)), (6, .int ((pbL S N j (7 + 5 * j + 0) n i).2)), (7, .int (nI i))] [] (ow q B o ++ (hw q (B 1) h1 ++ (hw q (B 2) k ++ (hw q (B 3) h3 ++ (tw q (B 4) t ++ (sw q (B 5) g)))))) 0 0 := by
          intro fu
          induction fu with
          | zero =>
            intro i k hfu
            exact absurd hfu (Nat.not_lt_zero _)
          | succ fu ih =>
            intro i k hfu hi
            refine g_iload C dX4_proudestBy_39 7 rfl ?_
            refine g_iloadn C dX4_proudestBy_41 2 rfl rfl ?_
            refine g_icmpN_ge C 98 (i) (6) dX4_proudestBy_42 rfl (by omega) (by omega) (fun c_42 => ?_) (fun c_42 => ?_)
            · refine g_iload C dX4_proudestBy_98 5 rfl ?_
              exact g_iret C k hr dX4_proudestBy_100 (Nat.le_of_ble_eq_true rfl) (Nat.le_of_ble_eq_true rfl) rfl (by unfold R_by; (try simp only [hS0]); (repeat' split) <;> first | (rw [ec, ed, show i = 6 by omega]; done) | with_reducible rfl | (exfalso; simp only [lg_lt0, lg_gt0, w_le, w_lt, Int32.lt_iff_toInt_lt, Int32.le_iff_toInt_le, ← Int32.toInt_inj, tI_0, tI_1, tI_2, tI_3, tI_4, tI_5, tI_6, tI_7, tI_8, tI_9, tI_10, tI_13, tI_19, tI_20, tI_30, tI_32, tI_40, tI_48, tI_57, tI_59, tI_60, tI_97, tI_99, tI_100, tI_122, tI_200, tI_m1, tI_m2, tI_m3, tI_39, not_and, not_or] at * <;> omega))
            · refine g_aloadn C dX4_proudestBy_45 0 rfl rfl ?_
              refine g_callAv C (rd_V C (k_X4_tryFromNow l D q tt B o h1 k h3 t g ) gX4_proudestBy_X4_tryFromNow rfl rfl rfl 0 ok_X4_tryFromNow rfl 0 rfl rfl (rest := []) rfl rfl (Nat.le_of_ble_eq_true rfl) dX4_proudestBy_46 ⟨(Nat.le_of_ble_eq_true rfl), (Nat.le_of_ble_eq_true rfl)⟩ ⟨(Nat.le_of_ble_eq_true rfl), (Nat.le_of_ble_eq_true rfl)⟩) (fun u_46 h_46 => ?_)
              have tr_46 := h_46
              refine g_aloadn C dX4_proudestBy_49 1 rfl rfl ?_
              refine g_iloadn C dX4_proudestBy_50 3 rfl rfl ?_
              refine g_topci (nI j) (ej) ?_
              refine g_iload C dX4_proudestBy_51 7 rfl ?_
              refine g_iast C 15 (j) (f := (hK u_46)) rfl rfl (by omega) (by decide) dX4_proudestBy_53 (ow q B o ++ (hw q (B 1) h1 ++ (hw q (B 2) ((hL u_46), (upd (hK u_46) j (nI i)), (hP u_46), (hE u_46), (hR u_46), (hN u_46), (hC u_46), (hM u_46), (hZ u_46), (hJ u_46), (hH u_46)) ++ (hw q (B 3) h3 ++ (tw q (B 4) t ++ (sw q (B 5) g)))))) rfl ?_
              refine g_aloadn C dX4_proudestBy_54 0 rfl rfl ?_
              refine g_get C fx4 w_0 0 1 (v := .ref ((B 2) 0)) rfl (by decide) w_2 rfl dX4_proudestBy_55 ?_
              refine g_iload C dX4_proudestBy_58 4 rfl ?_
              refine g_topci (nI n) (en) ?_
              refine g_callWv (w1 := (ow q B o ++ (hw q (B 1) h1 ++ (hw q (B 2) ((hL u_46), (upd (hK u_46) j (nI i)), (hP u_46), (hE u_46), (hR u_46), (hN u_46), (hC u_46), (hM u_46), (hZ u_46), (hJ u_46), (hH u_46)) ++ (hw q (B 3) h3 ++ (tw q (B 4) t ++ (sw q (B 5) g))))))) (wr := ([0, 1, 2, 3, 4, 5, 6, 7, 8, 9, 10, 11, 12, 21, 22, 23, 24, 25, 26, 27, 28, 29, 30, 31, 32] : List Nat).filterMap (fun ix_ => (ow q B o ++ (hw q (B 1) h1 ++ (hw q (B 2) ((hL u_46), (upd (hK u_46) j (nI i)), (hP u_46), (hE u_46), (hR u_46), (hN u_46), (hC u_46), (hM u_46), (hZ u_46), (hJ u_46), (hH u_46)) ++ (hw q (B 3) h3 ++ (tw q (B 4) t ++ (sw q (B 5) g))))))[ix_]?)) (isC := [13, 14, 15, 16, 17, 18, 19, 20]) (isR := [0, 1, 2, 3, 4, 5, 6, 7, 8, 9, 10, 11, 12, 21, 22, 23, 24, 25, 26, 27, 28, 29, 30, 31, 32]) (pm := [0, 1, 2, 3, 4, 5, 6, 7, 8, 9, 10, 11, 12, 25, 26, 27, 28, 29, 30, 31, 32, 13, 14, 15, 16, 17, 18, 19, 20, 21, 22, 23, 24]) (w1' := (fun u_60 => (ow q B o ++ (hw q (B 1) h1 ++ (hw q (B 2) u_60 ++ (hw q (B 3) h3 ++ (tw q (B 4) t ++ (sw q (B 5) g)))))))) C (rd_V C (k_X0_pass l D q tt (B 2) ((hL u_46), (upd (hK u_46) j (nI i)), (hP u_46), (hE u_46), (hR u_46), (hN u_46), (hC u_46), (hM u_46), (hZ u_46), (hJ u_46), (hH u_46)) (upd S (7 + 5 * j + 0) (nI i)) N n (hG.w0 (by omega)) (hr_k (tr_46 S N hG rS) (by omega)) (by first | assumption | omega)) gX4_proudestBy_X0_pass rfl rfl rfl 1 ok_X0_pass rfl 0 rfl rfl (rest := []) rfl rfl (Nat.le_of_ble_eq_true rfl) dX4_proudestBy_60 ⟨(Nat.le_of_ble_eq_true rfl), (Nat.le_of_ble_eq_true rfl)⟩ ⟨(Nat.le_of_ble_eq_true rfl), (Nat.le_of_ble_eq_true rfl)⟩) rfl rfl rfl (fun _ => rfl) rfl (fun u_60 h_60 => ?_)
              have rS_60 := h_60
              refine g_wsc (ow q B o ++ (hw q (B 1) h1 ++ (hw q (B 2) u_60 ++ (hw q (B 3) h3 ++ (tw q (B 4) t ++ (sw q (B 5) g)))))) rfl ?_
              refine g_aloadn C dX4_proudestBy_63 0 rfl rfl ?_
              refine g_get C fx4 w_0 0 1 (v := .ref ((B 2) 0)) rfl (by decide) w_2 rfl dX4_proudestBy_64 ?_
              refine g_get C fx0 w_3 13 2 (v := .ref ((B 2) 3)) rfl (by decide) w_4 rfl dX4_proudestBy_67 ?_
              refine g_iloadn C dX4_proudestBy_70 3 rfl rfl ?_
              refine g_topci (nI j) (ej) ?_
              refine g_iald C 16 (j) (f := (hP u_60)) rfl rfl (by omega) (by decide) dX4_proudestBy_71 ?_
              refine g_topci (sP (gosS (upd S (7 + 5 * j + 0) (nI i)) N n) j) (rS_60.P (by omega)) ?_
              refine g_iload C dX4_proudestBy_72 6 rfl ?_
              refine g_icmp_le C 92 dX4_proudestBy_74 rfl (fun c_74 => ?_) (fun c_74 => ?_)
              · refine g_lvc 5 (lv' := [(0, .ref ((B 0) 0)), (1, .ref ((B 2) 2)), (2, .int 6), (3, .int x), (4, .int y), (5, .int ((pbL S N j (7 + 5 * j + 0) n (i + 1)).1)), (6, .int ((pbL S N j (7 + 5 * j + 0) n i).2)), (7, .int (nI i))]) (by rw [show ((pbL S N j (7 + 5 * j + 0) n i).1) = ((pbL S N j (7 + 5 * j + 0) n (i + 1)).1) from by rw [pb_neg (Int32.not_lt.mpr c_74)]]) ?_
                refine g_lvc 6 (lv' := [(0, .ref ((B 0) 0)), (1, .ref ((B 2) 2)), (2, .int 6), (3, .int x), (4, .int y), (5, .int ((pbL S N j (7 + 5 * j + 0) n (i + 1)).1)), (6, .int ((pbL S N j (7 + 5 * j + 0) n (i + 1)).2)), (7, .int (nI i))]) (by rw [show ((pbL S N j (7 + 5 * j + 0) n i).2) = ((pbL S N j (7 + 5 * j + 0) n (i + 1)).2) from by rw [pb_neg (Int32.not_lt.mpr c_74)]]) ?_
                refine g_iinc C (nI (i + 1)) [(7, .int (nI (i + 1))), (0, .ref ((B 0) 0)), (1, .ref ((B 2) 2)), (2, .int 6), (3, .int x), (4, .int y), (5, .int ((pbL S N j (7 + 5 * j + 0) n (i + 1)).1)), (6, .int ((pbL S N j (7 + 5 * j + 0) n (i + 1)).2))] dX4_proudestBy_92 7 rfl (nI_add i 1) (by decide) rfl ?_
                refine g_goto C 39 dX4_proudestBy_95 rfl ?_
                refine g_sub [1, 2, 3, 4, 5, 6, 7, 0] (lv' := [(0, .ref ((B 0) 0)), (1, .ref ((B 2) 2)), (2, .int 6), (3, .int x), (4, .int y), (5, .int ((pbL S N j (7 + 5 * j + 0) n (i + 1)).1)), (6, .int ((pbL S N j (7 + 5 * j + 0) n (i + 1)).2)), (7, .int (nI (i + 1)))]) rfl ?_
                exact ih ((i + 1)) (u_60) (by omega) (by first | assumption | omega)
              · refine g_aloadn C dX4_proudestBy_77 0 rfl rfl ?_
                refine g_get C fx4 w_0 0 1 (v := .ref ((B 2) 0)) rfl (by decide) w_2 rfl dX4_proudestBy_78 ?_
                refine g_get C fx0 w_3 13 2 (v := .ref ((B 2) 3)) rfl (by decide) w_4 rfl dX4_proudestBy_81 ?_
                refine g_iloadn C dX4_proudestBy_84 3 rfl rfl ?_
                refine g_topci (nI j) (ej) ?_
                refine g_iald C 16 (j) (f := (hP u_60)) rfl rfl (by omega) (by decide) dX4_proudestBy_85 ?_
                refine g_topci (sP (gosS (upd S (7 + 5 * j + 0) (nI i)) N n) j) (rS_60.P (by omega)) ?_
                refine g_istore C [(6, .int (sP (gosS (upd S (7 + 5 * j + 0) (nI i)) N n) j)), (0, .ref ((B 0) 0)), (1, .ref ((B 2) 2)), (2, .int 6), (3, .int x), (4, .int y), (5, .int ((pbL S N j (7 + 5 * j + 0) n i).1)), (7, .int (nI i))] dX4_proudestBy_86 (by decide) rfl ?_
                refine g_iload C dX4_proudestBy_88 7 rfl ?_
                refine g_istore C [(5, .int (nI i)), (6, .int (sP (gosS (upd S (7 + 5 * j + 0) (nI i)) N n) j)), (0, .ref ((B 0) 0)), (1, .ref ((B 2) 2)), (2, .int 6), (3, .int x), (4, .int y), (7, .int (nI i))] dX4_proudestBy_90 (by decide) rfl ?_
                refine g_lvc 0 (lv' := [(5, .int ((pbL S N j (7 + 5 * j + 0) n (i + 1)).1)), (6, .int (sP (gosS (upd S (7 + 5 * j + 0) (nI i)) N n) j)), (0, .ref ((B 0) 0)), (1, .ref ((B 2) 2)), (2, .int 6), (3, .int x), (4, .int y), (7, .int (nI i))]) (by rw [show (nI i) = ((pbL S N j (7 + 5 * j + 0) n (i + 1)).1) from by rw [pb_pos (Int32.not_le.mp c_74)]]) ?_
                refine g_lvc 1 (lv' := [(5, .int ((pbL S N j (7 + 5 * j + 0) n (i + 1)).1)), (6, .int ((pbL S N j (7 + 5 * j + 0) n (i + 1)).2)), (0, .ref ((B 0) 0)), (1, .ref ((B 2) 2)), (2, .int 6), (3, .int x), (4, .int y), (7, .int (nI i))]) (by rw [show (sP (gosS (upd S (7 + 5 * j + 0) (nI i)) N n) j) = ((pbL S N j (7 + 5 * j + 0) n (i + 1)).2) from by rw [pb_pos (Int32.not_le.mp c_74)]]) ?_
                refine g_iinc C (nI (i + 1)) [(7, .int (nI (i + 1))), (5, .int ((pbL S N j (7 + 5 * j + 0) n (i + 1)).1)), (6, .int ((pbL S N j (7 + 5 * j + 0) n (i + 1)).2)), (0, .ref ((B 0) 0)), (1, .ref ((B 2) 2)), (2, .int 6), (3, .int x), (4, .int y)] dX4_proudestBy_92 7 rfl (nI_add i 1) (by decide) rfl ?_
                refine g_goto C 39 dX4_proudestBy_95 rfl ?_
                refine g_sub [3, 4, 5, 6, 7, 1, 2, 0] (lv' := [(0, .ref ((B 0) 0)), (1, .ref ((B 2) 2)), (2, .int 6), (3, .int x), (4, .int y), (5, .int ((pbL S N j (7 + 5 * j + 0) n (i + 1)).1)), (6, .int ((pbL S N j (7 + 5 * j + 0) n (i + 1)).2)), (7, .int (nI (i + 1)))]) rfl ?_
                exact ih ((i + 1)) (u_60) (by omega) (by first | assumption | omega)
        refine g_sub [3, 4, 5, 6, 7, 2, 1, 0] (lv' := [(0, .ref ((B 0) 0)), (1, .ref ((B 2) 2)), (2, .int 6), (3, .int x), (4, .int y), (5, .int 0), (6, .int (-1)), (7, .int 0)]) rfl ?_
        exact J_39 _ (0) (h2) (Nat.lt_succ_self _) (by first | assumption | omega)
      · refine g_iconst C (-1) dX4_proudestBy_28 (by decide) ?_
        exact g_iret C h2 hr dX4_proudestBy_29 (Nat.le_of_ble_eq_true rfl) (Nat.le_of_ble_eq_true rfl) rfl (by unfold R_by; (try simp only [hS0]); (repeat' split) <;> first | (rw [ec, ed, show i = 6 by omega]; done) | with_reducible rfl | (exfalso; simp only [lg_lt0, lg_gt0, w_le, w_lt, Int32.lt_iff_toInt_lt, Int32.le_iff_toInt_le, ← Int32.toInt_inj, tI_0, tI_1, tI_2, tI_3, tI_4, tI_5, tI_6, tI_7, tI_8, tI_9, tI_10, tI_13, tI_19, tI_20, tI_30, tI_32, tI_40, tI_48, tI_57, tI_59, tI_60, tI_97, tI_99, tI_100, tI_122, tI_200, tI_m1, tI_m2, tI_m3, tI_39, not_and, not_or] at * <;> omega))

set_option maxRecDepth 100000 in
set_option maxHeartbeats 4000000 in
theorem k_X4_pbEar (l : Launch) (D : va_G) (q : Nat → ClassId) (tt : Nat → Nat) (B : Nat → Nat → Nat) (o : OC) (h1 : HC) (h2 : HC) (h3 : HC) (t : TC) (g : GC) (S : Nat → Int32) (N : Nat) (x : Int32) (y : Int32) (hG : Gd S N) (rS : HR S N h1) : MI l D q tt yX4_proudestBy wsX4_proudestBy ({ frames := 4, cells := 0, slots := 0, locals := 101 } : Room) [.ref ((B 0) 0), .ref ((B 2) 4), .int 10, .int x, .int y] (ow q B o ++ (hw q (B 1) h1 ++ (hw q (B 2) h2 ++ (hw q (B 3) h3 ++ (tw q (B 4) t ++ (sw q (B 5) g)))))) (fun (r : Int32) (u : HC) => r = (R_by S N 2 10 x y)) (fun u => (ow q B o ++ (hw q (B 1) h1 ++ (hw q (B 2) u ++ (hw q (B 3) h3 ++ (tw q (B 4) t ++ (sw q (B 5) g))))))) 0 0 := by
  refine MI.of RX4 [(0, .ref ((B 0) 0)), (1, .ref ((B 2) 4)), (2, .int 10), (3, .int x), (4, .int y)] (by decide) rfl rfl (Nat.le_of_ble_eq_true rfl) rfl ?_
  intro p e s m args below meth c A C hr hnm
  have w_0 : ∀ w ∈ u_ws RX4 TX4 11, w ∈ wsX4_proudestBy := by decide +kernel
  have w_1 : Cond.fieldLink RX4 10 (TX4 0).1 (TX4 0).2.1 (TX4 0).2.2.1 ∈ wsX4_proudestBy := by decide +kernel
  have w_2 : Cond.fieldLink RX4 16 (TX4 1).1 (TX4 1).2.1 (TX4 1).2.2.1 ∈ wsX4_proudestBy := by decide +kernel
  have w_3 : ∀ w ∈ u_ws RX0 TX0 11, w ∈ wsX4_proudestBy := by decide +kernel
  have w_4 : Cond.fieldLink RX4 123 (TX0 2).1 (TX0 2).2.1 (TX0 2).2.2.1 ∈ wsX4_proudestBy := by decide +kernel
  have h8 := hG.le
  have hS0 := hG.n
  refine g_aloadn C dX4_proudestBy_0 0 rfl rfl ?_
  refine g_get C fx4 w_0 0 0 (v := .ref ((B 1) 0)) rfl (by decide) w_1 rfl dX4_proudestBy_1 ?_
  refine g_iloadn C dX4_proudestBy_4 3 rfl rfl ?_
  refine g_callWi (w1 := (ow q B o ++ (hw q (B 1) h1 ++ (hw q (B 2) h2 ++ (hw q (B 3) h3 ++ (tw q (B 4) t ++ (sw q (B 5) g))))))) (wr := ([0, 1, 2, 3, 4, 13, 14, 15, 16, 17, 18, 19, 20, 21, 22, 23, 24, 25, 26, 27, 28, 29, 30, 31, 32] : List Nat).filterMap (fun i => (ow q B o ++ (hw q (B 1) h1 ++ (hw q (B 2) h2 ++ (hw q (B 3) h3 ++ (tw q (B 4) t ++ (sw q (B 5) g))))))[i]?)) (isC := [5, 6, 7, 8, 9, 10, 11, 12]) (isR := [0, 1, 2, 3, 4, 13, 14, 15, 16, 17, 18, 19, 20, 21, 22, 23, 24, 25, 26, 27, 28, 29, 30, 31, 32]) (pm := [0, 1, 2, 3, 4, 25, 26, 27, 28, 29, 30, 31, 32, 5, 6, 7, 8, 9, 10, 11, 12, 13, 14, 15, 16, 17, 18, 19, 20, 21, 22, 23, 24]) (w1' := (fun _ => (ow q B o ++ (hw q (B 1) h1 ++ (hw q (B 2) h2 ++ (hw q (B 3) h3 ++ (tw q (B 4) t ++ (sw q (B 5) g)))))))) C (rd_V C (k_X0_has l D q tt (B 1) h1 S N x (by first | assumption | omega) (by first | assumption | omega)) gX4_proudestBy_X0_has rfl rfl rfl 1 ok_X0_has rfl 0 rfl rfl (rest := []) rfl rfl (Nat.le_of_ble_eq_true rfl) dX4_proudestBy_5 ⟨(Nat.le_of_ble_eq_true rfl), (Nat.le_of_ble_eq_true rfl)⟩ ⟨(Nat.le_of_ble_eq_true rfl), (Nat.le_of_ble_eq_true rfl)⟩) rfl rfl rfl (fun _ => rfl) rfl (fun r_5 _ h_5 => ?_)
  obtain rfl := h_5
  refine g_ifeqE C 28 dX4_proudestBy_8 rfl rfl (fun c_8 => ?_) (fun c_8 => ?_)
  · refine g_iconst C (-1) dX4_proudestBy_28 (by decide) ?_
    exact g_iret C h2 hr dX4_proudestBy_29 (Nat.le_of_ble_eq_true rfl) (Nat.le_of_ble_eq_true rfl) rfl (by unfold R_by; (try simp only [hS0]); (repeat' split) <;> first | (rw [ec, ed, show i = 10 by omega]; done) | with_reducible rfl | (exfalso; simp only [lg_lt0, lg_gt0, w_le, w_lt, Int32.lt_iff_toInt_lt, Int32.le_iff_toInt_le, ← Int32.toInt_inj, tI_0, tI_1, tI_2, tI_3, tI_4, tI_5, tI_6, tI_7, tI_8, tI_9, tI_10, tI_13, tI_19, tI_20, tI_30, tI_32, tI_40, tI_48, tI_57, tI_59, tI_60, tI_97, tI_99, tI_100, tI_122, tI_200, tI_m1, tI_m2, tI_m3, tI_39, not_and, not_or] at * <;> omega))
  · obtain ⟨j, hj, ej, ec⟩ := ix_lt (by omega) c_8
    refine g_iloadn C dX4_proudestBy_11 3 rfl rfl ?_
    refine g_topci (nI j) (ej) ?_
    refine g_aloadn C dX4_proudestBy_12 1 rfl rfl ?_
    refine g_alen C 17 8 rfl (t0 := 0) rfl rfl dX4_proudestBy_13 ?_
    refine g_icmpN_ge C 28 (j) (8) dX4_proudestBy_14 rfl (by omega) (by omega) (fun c_14 => ?_) (fun c_14 => ?_)
    · refine g_iconst C (-1) dX4_proudestBy_28 (by decide) ?_
      exact g_iret C h2 hr dX4_proudestBy_29 (Nat.le_of_ble_eq_true rfl) (Nat.le_of_ble_eq_true rfl) rfl (by exfalso; omega)
    · refine g_iload C dX4_proudestBy_17 4 rfl ?_
      refine g_iconst C 1 dX4_proudestBy_19 (by decide) ?_
      refine g_bipush C 20 dX4_proudestBy_20 (by decide) ?_
      refine g_call0i C (rd_S C (k_X4_within l D q tt y 1 20 ) gX4_proudestBy_X4_within rfl rfl rfl 3 ok_X4_within (rest := []) rfl rfl (Nat.le_of_ble_eq_true rfl) dX4_proudestBy_22 ⟨(Nat.le_of_ble_eq_true rfl), (Nat.le_of_ble_eq_true rfl)⟩ ⟨(Nat.le_of_ble_eq_true rfl), (Nat.le_of_ble_eq_true rfl)⟩) (fun _ => rfl) (fun r_22 _ h_22 => ?_)
      obtain rfl := h_22
      refine g_ifneE C 30 dX4_proudestBy_25 rfl rfl (fun c_25 => ?_) (fun c_25 => ?_)
      · obtain ⟨n, hn, en, ed⟩ := ix_le (n := 20) (by omega) ⟨Int32.le_trans (by decide) c_25.1, c_25.2⟩
        refine g_iconst C 0 dX4_proudestBy_30 (by decide) ?_
        refine g_istore C [(5, .int 0), (0, .ref ((B 0) 0)), (1, .ref ((B 2) 4)), (2, .int 10), (3, .int x), (4, .int y)] dX4_proudestBy_31 (by decide) rfl ?_
        refine g_iconst C (-1) dX4_proudestBy_33 (by decide) ?_
        refine g_istore C [(6, .int (-1)), (5, .int 0), (0, .ref ((B 0) 0)), (1, .ref ((B 2) 4)), (2, .int 10), (3, .int x), (4, .int y)] dX4_proudestBy_34 (by decide) rfl ?_
        refine g_iconst C 0 dX4_proudestBy_36 (by decide) ?_
        refine g_istore C [(7, .int 0), (6, .int (-1)), (5, .int 0), (0, .ref ((B 0) 0)), (1, .ref ((B 2) 4)), (2, .int 10), (3, .int x), (4, .int y)] dX4_proudestBy_37 (by decide) rfl ?_
        have J_39 : ∀ (fu : Nat) (i : Nat) (k : HC), 10 - i < fu → (i ≤ 10) → G p l e ({ frames := 4, cells := 0, slots := 0, locals := 101 } : Room) s m args below meth c 8 D A (MQ below (va_Qi (fun (r : Int32) (u : HC) => r = (R_by S N 2 10 x y)) (Bw D A (fun u => (ow q B o ++ (hw q (B 1) h1 ++ (hw q (B 2) u ++ (hw q (B 3) h3 ++ (tw q (B 4) t ++ (sw q (B 5) g)))))))) A) args s 0 0 A) 39 [(0, .ref ((B 0) 0)), (1, .ref ((B 2) 4)), (2, .int 10), (3, .int x), (4, .int y), (5, .int ((pbL S N j (7 + 5 * j + 2) n i).1)), (6, .int ((pbL S N j (7 + 5 * j + 2) n i).2)), (7, .int (nI i))] [] (ow q B o ++ (hw q (B 1) h1 ++ (hw q (B 2) k ++ (hw q (B 3) h3 ++ (tw q (B 4) t ++ (sw q (B 5) g)))))) 0 0 := by
          intro fu
          induction fu with
          | zero =>
            intro i k hfu
            exact absurd hfu (Nat.not_lt_zero _)
          | succ fu ih =>
            intro i k hfu hi
            refine g_iload C dX4_proudestBy_39 7 rfl ?_
            refine g_iloadn C dX4_proudestBy_41 2 rfl rfl ?_
            refine g_icmpN_ge C 98 (i) (10) dX4_proudestBy_42 rfl (by omega) (by omega) (fun c_42 => ?_) (fun c_42 => ?_)
            · refine g_iload C dX4_proudestBy_98 5 rfl ?_
              exact g_iret C k hr dX4_proudestBy_100 (Nat.le_of_ble_eq_true rfl) (Nat.le_of_ble_eq_true rfl) rfl (by unfold R_by; (try simp only [hS0]); (repeat' split) <;> first | (rw [ec, ed, show i = 10 by omega]; done) | with_reducible rfl | (exfalso; simp only [lg_lt0, lg_gt0, w_le, w_lt, Int32.lt_iff_toInt_lt, Int32.le_iff_toInt_le, ← Int32.toInt_inj, tI_0, tI_1, tI_2, tI_3, tI_4, tI_5, tI_6, tI_7, tI_8, tI_9, tI_10, tI_13, tI_19, tI_20, tI_30, tI_32, tI_40, tI_48, tI_57, tI_59, tI_60, tI_97, tI_99, tI_100, tI_122, tI_200, tI_m1, tI_m2, tI_m3, tI_39, not_and, not_or] at * <;> omega))
            · refine g_aloadn C dX4_proudestBy_45 0 rfl rfl ?_
              refine g_callAv C (rd_V C (k_X4_tryFromNow l D q tt B o h1 k h3 t g ) gX4_proudestBy_X4_tryFromNow rfl rfl rfl 0 ok_X4_tryFromNow rfl 0 rfl rfl (rest := []) rfl rfl (Nat.le_of_ble_eq_true rfl) dX4_proudestBy_46 ⟨(Nat.le_of_ble_eq_true rfl), (Nat.le_of_ble_eq_true rfl)⟩ ⟨(Nat.le_of_ble_eq_true rfl), (Nat.le_of_ble_eq_true rfl)⟩) (fun u_46 h_46 => ?_)
              have tr_46 := h_46
              refine g_aloadn C dX4_proudestBy_49 1 rfl rfl ?_
              refine g_iloadn C dX4_proudestBy_50 3 rfl rfl ?_
              refine g_topci (nI j) (ej) ?_
              refine g_iload C dX4_proudestBy_51 7 rfl ?_
              refine g_iast C 17 (j) (f := (hE u_46)) rfl rfl (by omega) (by decide) dX4_proudestBy_53 (ow q B o ++ (hw q (B 1) h1 ++ (hw q (B 2) ((hL u_46), (hK u_46), (hP u_46), (upd (hE u_46) j (nI i)), (hR u_46), (hN u_46), (hC u_46), (hM u_46), (hZ u_46), (hJ u_46), (hH u_46)) ++ (hw q (B 3) h3 ++ (tw q (B 4) t ++ (sw q (B 5) g)))))) rfl ?_
              refine g_aloadn C dX4_proudestBy_54 0 rfl rfl ?_
              refine g_get C fx4 w_0 0 1 (v := .ref ((B 2) 0)) rfl (by decide) w_2 rfl dX4_proudestBy_55 ?_
              refine g_iload C dX4_proudestBy_58 4 rfl ?_
              refine g_topci (nI n) (en) ?_
              refine g_callWv (w1 := (ow q B o ++ (hw q (B 1) h1 ++ (hw q (B 2) ((hL u_46), (hK u_46), (hP u_46), (upd (hE u_46) j (nI i)), (hR u_46), (hN u_46), (hC u_46), (hM u_46), (hZ u_46), (hJ u_46), (hH u_46)) ++ (hw q (B 3) h3 ++ (tw q (B 4) t ++ (sw q (B 5) g))))))) (wr := ([0, 1, 2, 3, 4, 5, 6, 7, 8, 9, 10, 11, 12, 21, 22, 23, 24, 25, 26, 27, 28, 29, 30, 31, 32] : List Nat).filterMap (fun ix_ => (ow q B o ++ (hw q (B 1) h1 ++ (hw q (B 2) ((hL u_46), (hK u_46), (hP u_46), (upd (hE u_46) j (nI i)), (hR u_46), (hN u_46), (hC u_46), (hM u_46), (hZ u_46), (hJ u_46), (hH u_46)) ++ (hw q (B 3) h3 ++ (tw q (B 4) t ++ (sw q (B 5) g))))))[ix_]?)) (isC := [13, 14, 15, 16, 17, 18, 19, 20]) (isR := [0, 1, 2, 3, 4, 5, 6, 7, 8, 9, 10, 11, 12, 21, 22, 23, 24, 25, 26, 27, 28, 29, 30, 31, 32]) (pm := [0, 1, 2, 3, 4, 5, 6, 7, 8, 9, 10, 11, 12, 25, 26, 27, 28, 29, 30, 31, 32, 13, 14, 15, 16, 17, 18, 19, 20, 21, 22, 23, 24]) (w1' := (fun u_60 => (ow q B o ++ (hw q (B 1) h1 ++ (hw q (B 2) u_60 ++ (hw q (B 3) h3 ++ (tw q (B 4) t ++ (sw q (B 5) g)))))))) C (rd_V C (k_X0_pass l D q tt (B 2) ((hL u_46), (hK u_46), (hP u_46), (upd (hE u_46) j (nI i)), (hR u_46), (hN u_46), (hC u_46), (hM u_46), (hZ u_46), (hJ u_46), (hH u_46)) (upd S (7 + 5 * j + 2) (nI i)) N n hG.w2 (hr_e (tr_46 S N hG rS) (by omega)) (by first | assumption | omega)) gX4_proudestBy_X0_pass rfl rfl rfl 1 ok_X0_pass rfl 0 rfl rfl (rest := []) rfl rfl (Nat.le_of_ble_eq_true rfl) dX4_proudestBy_60 ⟨(Nat.le_of_ble_eq_true rfl), (Nat.le_of_ble_eq_true rfl)⟩ ⟨(Nat.le_of_ble_eq_true rfl), (Nat.le_of_ble_eq_true rfl)⟩) rfl rfl rfl (fun _ => rfl) rfl (fun u_60 h_60 => ?_)
              have rS_60 := h_60
              refine g_wsc (ow q B o ++ (hw q (B 1) h1 ++ (hw q (B 2) u_60 ++ (hw q (B 3) h3 ++ (tw q (B 4) t ++ (sw q (B 5) g)))))) rfl ?_
              refine g_aloadn C dX4_proudestBy_63 0 rfl rfl ?_
              refine g_get C fx4 w_0 0 1 (v := .ref ((B 2) 0)) rfl (by decide) w_2 rfl dX4_proudestBy_64 ?_
              refine g_get C fx0 w_3 13 2 (v := .ref ((B 2) 3)) rfl (by decide) w_4 rfl dX4_proudestBy_67 ?_
              refine g_iloadn C dX4_proudestBy_70 3 rfl rfl ?_
              refine g_topci (nI j) (ej) ?_
              refine g_iald C 16 (j) (f := (hP u_60)) rfl rfl (by omega) (by decide) dX4_proudestBy_71 ?_
              refine g_topci (sP (gosS (upd S (7 + 5 * j + 2) (nI i)) N n) j) (rS_60.P (by omega)) ?_
              refine g_iload C dX4_proudestBy_72 6 rfl ?_
              refine g_icmp_le C 92 dX4_proudestBy_74 rfl (fun c_74 => ?_) (fun c_74 => ?_)
              · refine g_lvc 5 (lv' := [(0, .ref ((B 0) 0)), (1, .ref ((B 2) 4)), (2, .int 10), (3, .int x), (4, .int y), (5, .int ((pbL S N j (7 + 5 * j + 2) n (i + 1)).1)), (6, .int ((pbL S N j (7 + 5 * j + 2) n i).2)), (7, .int (nI i))]) (by rw [show ((pbL S N j (7 + 5 * j + 2) n i).1) = ((pbL S N j (7 + 5 * j + 2) n (i + 1)).1) from by rw [pb_neg (Int32.not_lt.mpr c_74)]]) ?_
                refine g_lvc 6 (lv' := [(0, .ref ((B 0) 0)), (1, .ref ((B 2) 4)), (2, .int 10), (3, .int x), (4, .int y), (5, .int ((pbL S N j (7 + 5 * j + 2) n (i + 1)).1)), (6, .int ((pbL S N j (7 + 5 * j + 2) n (i + 1)).2)), (7, .int (nI i))]) (by rw [show ((pbL S N j (7 + 5 * j + 2) n i).2) = ((pbL S N j (7 + 5 * j + 2) n (i + 1)).2) from by rw [pb_neg (Int32.not_lt.mpr c_74)]]) ?_
                refine g_iinc C (nI (i + 1)) [(7, .int (nI (i + 1))), (0, .ref ((B 0) 0)), (1, .ref ((B 2) 4)), (2, .int 10), (3, .int x), (4, .int y), (5, .int ((pbL S N j (7 + 5 * j + 2) n (i + 1)).1)), (6, .int ((pbL S N j (7 + 5 * j + 2) n (i + 1)).2))] dX4_proudestBy_92 7 rfl (nI_add i 1) (by decide) rfl ?_
                refine g_goto C 39 dX4_proudestBy_95 rfl ?_
                refine g_sub [1, 2, 3, 4, 5, 6, 7, 0] (lv' := [(0, .ref ((B 0) 0)), (1, .ref ((B 2) 4)), (2, .int 10), (3, .int x), (4, .int y), (5, .int ((pbL S N j (7 + 5 * j + 2) n (i + 1)).1)), (6, .int ((pbL S N j (7 + 5 * j + 2) n (i + 1)).2)), (7, .int (nI (i + 1)))]) rfl ?_
                exact ih ((i + 1)) (u_60) (by omega) (by first | assumption | omega)
              · refine g_aloadn C dX4_proudestBy_77 0 rfl rfl ?_
                refine g_get C fx4 w_0 0 1 (v := .ref ((B 2) 0)) rfl (by decide) w_2 rfl dX4_proudestBy_78 ?_
                refine g_get C fx0 w_3 13 2 (v := .ref ((B 2) 3)) rfl (by decide) w_4 rfl dX4_proudestBy_81 ?_
                refine g_iloadn C dX4_proudestBy_84 3 rfl rfl ?_
                refine g_topci (nI j) (ej) ?_
                refine g_iald C 16 (j) (f := (hP u_60)) rfl rfl (by omega) (by decide) dX4_proudestBy_85 ?_
                refine g_topci (sP (gosS (upd S (7 + 5 * j + 2) (nI i)) N n) j) (rS_60.P (by omega)) ?_
                refine g_istore C [(6, .int (sP (gosS (upd S (7 + 5 * j + 2) (nI i)) N n) j)), (0, .ref ((B 0) 0)), (1, .ref ((B 2) 4)), (2, .int 10), (3, .int x), (4, .int y), (5, .int ((pbL S N j (7 + 5 * j + 2) n i).1)), (7, .int (nI i))] dX4_proudestBy_86 (by decide) rfl ?_
                refine g_iload C dX4_proudestBy_88 7 rfl ?_
                refine g_istore C [(5, .int (nI i)), (6, .int (sP (gosS (upd S (7 + 5 * j + 2) (nI i)) N n) j)), (0, .ref ((B 0) 0)), (1, .ref ((B 2) 4)), (2, .int 10), (3, .int x), (4, .int y), (7, .int (nI i))] dX4_proudestBy_90 (by decide) rfl ?_
                refine g_lvc 0 (lv' := [(5, .int ((pbL S N j (7 + 5 * j + 2) n (i + 1)).1)), (6, .int (sP (gosS (upd S (7 + 5 * j + 2) (nI i)) N n) j)), (0, .ref ((B 0) 0)), (1, .ref ((B 2) 4)), (2, .int 10), (3, .int x), (4, .int y), (7, .int (nI i))]) (by rw [show (nI i) = ((pbL S N j (7 + 5 * j + 2) n (i + 1)).1) from by rw [pb_pos (Int32.not_le.mp c_74)]]) ?_
                refine g_lvc 1 (lv' := [(5, .int ((pbL S N j (7 + 5 * j + 2) n (i + 1)).1)), (6, .int ((pbL S N j (7 + 5 * j + 2) n (i + 1)).2)), (0, .ref ((B 0) 0)), (1, .ref ((B 2) 4)), (2, .int 10), (3, .int x), (4, .int y), (7, .int (nI i))]) (by rw [show (sP (gosS (upd S (7 + 5 * j + 2) (nI i)) N n) j) = ((pbL S N j (7 + 5 * j + 2) n (i + 1)).2) from by rw [pb_pos (Int32.not_le.mp c_74)]]) ?_
                refine g_iinc C (nI (i + 1)) [(7, .int (nI (i + 1))), (5, .int ((pbL S N j (7 + 5 * j + 2) n (i + 1)).1)), (6, .int ((pbL S N j (7 + 5 * j + 2) n (i + 1)).2)), (0, .ref ((B 0) 0)), (1, .ref ((B 2) 4)), (2, .int 10), (3, .int x), (4, .int y)] dX4_proudestBy_92 7 rfl (nI_add i 1) (by decide) rfl ?_
                refine g_goto C 39 dX4_proudestBy_95 rfl ?_
                refine g_sub [3, 4, 5, 6, 7, 1, 2, 0] (lv' := [(0, .ref ((B 0) 0)), (1, .ref ((B 2) 4)), (2, .int 10), (3, .int x), (4, .int y), (5, .int ((pbL S N j (7 + 5 * j + 2) n (i + 1)).1)), (6, .int ((pbL S N j (7 + 5 * j + 2) n (i + 1)).2)), (7, .int (nI (i + 1)))]) rfl ?_
                exact ih ((i + 1)) (u_60) (by omega) (by first | assumption | omega)
        refine g_sub [3, 4, 5, 6, 7, 2, 1, 0] (lv' := [(0, .ref ((B 0) 0)), (1, .ref ((B 2) 4)), (2, .int 10), (3, .int x), (4, .int y), (5, .int 0), (6, .int (-1)), (7, .int 0)]) rfl ?_
        exact J_39 _ (0) (h2) (Nat.lt_succ_self _) (by first | assumption | omega)
      · refine g_iconst C (-1) dX4_proudestBy_28 (by decide) ?_
        exact g_iret C h2 hr dX4_proudestBy_29 (Nat.le_of_ble_eq_true rfl) (Nat.le_of_ble_eq_true rfl) rfl (by unfold R_by; (try simp only [hS0]); (repeat' split) <;> first | (rw [ec, ed, show i = 10 by omega]; done) | with_reducible rfl | (exfalso; simp only [lg_lt0, lg_gt0, w_le, w_lt, Int32.lt_iff_toInt_lt, Int32.le_iff_toInt_le, ← Int32.toInt_inj, tI_0, tI_1, tI_2, tI_3, tI_4, tI_5, tI_6, tI_7, tI_8, tI_9, tI_10, tI_13, tI_19, tI_20, tI_30, tI_32, tI_40, tI_48, tI_57, tI_59, tI_60, tI_97, tI_99, tI_100, tI_122, tI_200, tI_m1, tI_m2, tI_m3, tI_39, not_and, not_or] at * <;> omega))

set_option maxRecDepth 100000 in
set_option maxHeartbeats 4000000 in
theorem k_X4_roomFor (l : Launch) (D : va_G) (q : Nat → ClassId) (tt : Nat → Nat) (B : Nat → Nat → Nat) (o : OC) (h1 : HC) (h2 : HC) (h3 : HC) (t : TC) (g : GC) (S : Nat → Int32) (N : Nat) (x : Int32) (y : Int32) (hG : Gd S N) (rS : HR S N h1) : MI l D q tt yX4_roomFor wsX4_roomFor ({ frames := 5, cells := 0, slots := 0, locals := 128 } : Room) [.ref ((B 0) 0), .int x, .int y] (ow q B o ++ (hw q (B 1) h1 ++ (hw q (B 2) h2 ++ (hw q (B 3) h3 ++ (tw q (B 4) t ++ (sw q (B 5) g)))))) (fun (r : Int32) (u : HC) => r = R_by S N 3 8 x y) (fun u => (ow q B o ++ (hw q (B 1) h1 ++ (hw q (B 2) u ++ (hw q (B 3) h3 ++ (tw q (B 4) t ++ (sw q (B 5) g))))))) 0 0 := by
  refine MI.of RX4 [(0, .ref ((B 0) 0)), (1, .int x), (2, .int y)] (by decide) rfl rfl (Nat.le_of_ble_eq_true rfl) rfl ?_
  intro p e s m args below meth c A C hr hnm
  have w_0 : ∀ w ∈ u_ws RX4 TX4 11, w ∈ wsX4_roomFor := by decide +kernel
  have w_1 : Cond.fieldLink RX4 16 (TX4 1).1 (TX4 1).2.1 (TX4 1).2.2.1 ∈ wsX4_roomFor := by decide +kernel
  have w_2 : ∀ w ∈ u_ws RX0 TX0 11, w ∈ wsX4_roomFor := by decide +kernel
  have w_3 : Cond.fieldLink RX4 129 (TX0 4).1 (TX0 4).2.1 (TX0 4).2.2.1 ∈ wsX4_roomFor := by decide +kernel
  have h8 := hG.le
  have hS0 := hG.n
  refine g_aloadn C dX4_roomFor_0 0 rfl rfl ?_
  refine g_aloadn C dX4_roomFor_1 0 rfl rfl ?_
  refine g_get C fx4 w_0 0 1 (v := .ref ((B 2) 0)) rfl (by decide) w_1 rfl dX4_roomFor_2 ?_
  refine g_get C fx0 w_2 13 4 (v := .ref ((B 2) 5)) rfl (by decide) w_3 rfl dX4_roomFor_5 ?_
  refine g_bipush C 8 dX4_roomFor_8 (by decide) ?_
  refine g_iloadn C dX4_roomFor_10 1 rfl rfl ?_
  refine g_iloadn C dX4_roomFor_11 2 rfl rfl ?_
  refine g_callAi C (rd_V C (k_X4_pbRoom l D q tt B o h1 h2 h3 t g S N x y (by first | assumption | omega) (by first | assumption | omega)) gX4_roomFor_X4_proudestBy rfl rfl rfl 4 ok_X4_proudestBy rfl 0 rfl rfl (rest := []) rfl rfl (Nat.le_of_ble_eq_true rfl) dX4_roomFor_12 ⟨(Nat.le_of_ble_eq_true rfl), (Nat.le_of_ble_eq_true rfl)⟩ ⟨(Nat.le_of_ble_eq_true rfl), (Nat.le_of_ble_eq_true rfl)⟩) (fun r_12 u_12 h_12 => ?_)
  obtain rfl := h_12
  exact g_iret C u_12 hr dX4_roomFor_15 (Nat.le_of_ble_eq_true rfl) (Nat.le_of_ble_eq_true rfl) rfl (rfl)

set_option maxRecDepth 100000 in
set_option maxHeartbeats 4000000 in
theorem k_X4_kindFor (l : Launch) (D : va_G) (q : Nat → ClassId) (tt : Nat → Nat) (B : Nat → Nat → Nat) (o : OC) (h1 : HC) (h2 : HC) (h3 : HC) (t : TC) (g : GC) (S : Nat → Int32) (N : Nat) (x : Int32) (y : Int32) (hG : Gd S N) (rS : HR S N h1) : MI l D q tt yX4_kindFor wsX4_kindFor ({ frames := 5, cells := 0, slots := 0, locals := 128 } : Room) [.ref ((B 0) 0), .int x, .int y] (ow q B o ++ (hw q (B 1) h1 ++ (hw q (B 2) h2 ++ (hw q (B 3) h3 ++ (tw q (B 4) t ++ (sw q (B 5) g)))))) (fun (r : Int32) (u : HC) => r = R_by S N 0 6 x y) (fun u => (ow q B o ++ (hw q (B 1) h1 ++ (hw q (B 2) u ++ (hw q (B 3) h3 ++ (tw q (B 4) t ++ (sw q (B 5) g))))))) 0 0 := by
  refine MI.of RX4 [(0, .ref ((B 0) 0)), (1, .int x), (2, .int y)] (by decide) rfl rfl (Nat.le_of_ble_eq_true rfl) rfl ?_
  intro p e s m args below meth c A C hr hnm
  have w_0 : ∀ w ∈ u_ws RX4 TX4 11, w ∈ wsX4_kindFor := by decide +kernel
  have w_1 : Cond.fieldLink RX4 16 (TX4 1).1 (TX4 1).2.1 (TX4 1).2.2.1 ∈ wsX4_kindFor := by decide +kernel
  have w_2 : ∀ w ∈ u_ws RX0 TX0 11, w ∈ wsX4_kindFor := by decide +kernel
  have w_3 : Cond.fieldLink RX4 120 (TX0 1).1 (TX0 1).2.1 (TX0 1).2.2.1 ∈ wsX4_kindFor := by decide +kernel
  have h8 := hG.le
  have hS0 := hG.n
  refine g_aloadn C dX4_kindFor_0 0 rfl rfl ?_
  refine g_aloadn C dX4_kindFor_1 0 rfl rfl ?_
  refine g_get C fx4 w_0 0 1 (v := .ref ((B 2) 0)) rfl (by decide) w_1 rfl dX4_kindFor_2 ?_
  refine g_get C fx0 w_2 13 1 (v := .ref ((B 2) 2)) rfl (by decide) w_3 rfl dX4_kindFor_5 ?_
  refine g_bipush C 6 dX4_kindFor_8 (by decide) ?_
  refine g_iloadn C dX4_kindFor_10 1 rfl rfl ?_
  refine g_iloadn C dX4_kindFor_11 2 rfl rfl ?_
  refine g_callAi C (rd_V C (k_X4_pbKind l D q tt B o h1 h2 h3 t g S N x y (by first | assumption | omega) (by first | assumption | omega)) gX4_kindFor_X4_proudestBy rfl rfl rfl 4 ok_X4_proudestBy rfl 0 rfl rfl (rest := []) rfl rfl (Nat.le_of_ble_eq_true rfl) dX4_kindFor_12 ⟨(Nat.le_of_ble_eq_true rfl), (Nat.le_of_ble_eq_true rfl)⟩ ⟨(Nat.le_of_ble_eq_true rfl), (Nat.le_of_ble_eq_true rfl)⟩) (fun r_12 u_12 h_12 => ?_)
  obtain rfl := h_12
  exact g_iret C u_12 hr dX4_kindFor_15 (Nat.le_of_ble_eq_true rfl) (Nat.le_of_ble_eq_true rfl) rfl (rfl)

set_option maxRecDepth 100000 in
set_option maxHeartbeats 4000000 in
theorem k_X4_earFor (l : Launch) (D : va_G) (q : Nat → ClassId) (tt : Nat → Nat) (B : Nat → Nat → Nat) (o : OC) (h1 : HC) (h2 : HC) (h3 : HC) (t : TC) (g : GC) (S : Nat → Int32) (N : Nat) (x : Int32) (y : Int32) (hG : Gd S N) (rS : HR S N h1) : MI l D q tt yX4_earFor wsX4_earFor ({ frames := 5, cells := 0, slots := 0, locals := 128 } : Room) [.ref ((B 0) 0), .int x, .int y] (ow q B o ++ (hw q (B 1) h1 ++ (hw q (B 2) h2 ++ (hw q (B 3) h3 ++ (tw q (B 4) t ++ (sw q (B 5) g)))))) (fun (r : Int32) (u : HC) => r = R_by S N 2 10 x y) (fun u => (ow q B o ++ (hw q (B 1) h1 ++ (hw q (B 2) u ++ (hw q (B 3) h3 ++ (tw q (B 4) t ++ (sw q (B 5) g))))))) 0 0 := by
  refine MI.of RX4 [(0, .ref ((B 0) 0)), (1, .int x), (2, .int y)] (by decide) rfl rfl (Nat.le_of_ble_eq_true rfl) rfl ?_
  intro p e s m args below meth c A C hr hnm
  have w_0 : ∀ w ∈ u_ws RX4 TX4 11, w ∈ wsX4_earFor := by decide +kernel
  have w_1 : Cond.fieldLink RX4 16 (TX4 1).1 (TX4 1).2.1 (TX4 1).2.2.1 ∈ wsX4_earFor := by decide +kernel
  have w_2 : ∀ w ∈ u_ws RX0 TX0 11, w ∈ wsX4_earFor := by decide +kernel
  have w_3 : Cond.fieldLink RX4 126 (TX0 3).1 (TX0 3).2.1 (TX0 3).2.2.1 ∈ wsX4_earFor := by decide +kernel
  have h8 := hG.le
  have hS0 := hG.n
  refine g_aloadn C dX4_earFor_0 0 rfl rfl ?_
  refine g_aloadn C dX4_earFor_1 0 rfl rfl ?_
  refine g_get C fx4 w_0 0 1 (v := .ref ((B 2) 0)) rfl (by decide) w_1 rfl dX4_earFor_2 ?_
  refine g_get C fx0 w_2 13 3 (v := .ref ((B 2) 4)) rfl (by decide) w_3 rfl dX4_earFor_5 ?_
  refine g_bipush C 10 dX4_earFor_8 (by decide) ?_
  refine g_iloadn C dX4_earFor_10 1 rfl rfl ?_
  refine g_iloadn C dX4_earFor_11 2 rfl rfl ?_
  refine g_callAi C (rd_V C (k_X4_pbEar l D q tt B o h1 h2 h3 t g S N x y (by first | assumption | omega) (by first | assumption | omega)) gX4_earFor_X4_proudestBy rfl rfl rfl 4 ok_X4_proudestBy rfl 0 rfl rfl (rest := []) rfl rfl (Nat.le_of_ble_eq_true rfl) dX4_earFor_12 ⟨(Nat.le_of_ble_eq_true rfl), (Nat.le_of_ble_eq_true rfl)⟩ ⟨(Nat.le_of_ble_eq_true rfl), (Nat.le_of_ble_eq_true rfl)⟩) (fun r_12 u_12 h_12 => ?_)
  obtain rfl := h_12
  exact g_iret C u_12 hr dX4_earFor_15 (Nat.le_of_ble_eq_true rfl) (Nat.le_of_ble_eq_true rfl) rfl (rfl)

