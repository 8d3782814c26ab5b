set_option maxRecDepth 100000 in
set_option maxHeartbeats 4000000 in
theorem k_X4_does (l : Launch) (D : va_G) (q : Nat → ClassId) (tt : Nat → Nat) (B : Nat → Nat → Nat) (o : OC) (h1 : HC) (h2 : HC) (h3 : HC) (t : TC) (g : GC) (S : Nat → Int32) (N : Nat) (x : Int32) (y : Int32) (hG : Gd S N) (rS : HR S N h1) : MI l D q tt yX4_does wsX4_does ({ frames := 3, cells := 0, slots := 0, locals := 66 } : Room) [.ref ((B 0) 0), .int x, .int y] (ow q B o ++ (hw q (B 1) h1 ++ (hw q (B 2) h2 ++ (hw q (B 3) h3 ++ (tw q (B 4) t ++ (sw q (B 5) g)))))) (fun (r : Int32) (u : HC) => r = R_does S N x y ∧ ∃ N2, Gd (S) N2 ∧ HR (S) N2 u) (fun u => (ow q B o ++ (hw q (B 1) u ++ (hw q (B 2) h2 ++ (hw q (B 3) h3 ++ (tw q (B 4) t ++ (sw q (B 5) g))))))) 0 0 := by
  refine MI.of RX4 [(0, .ref ((B 0) 0)), (1, .int x), (2, .int y)] (by decide) rfl rfl (Nat.le_of_ble_eq_true rfl) rfl ?_
  intro p e s m args below meth c A C hr hnm
  have w_0 : ∀ w ∈ u_ws RX4 TX4 11, w ∈ wsX4_does := by decide +kernel
  have w_1 : Cond.fieldLink RX4 10 (TX4 0).1 (TX4 0).2.1 (TX4 0).2.2.1 ∈ wsX4_does := by decide +kernel
  have h8 := hG.le
  have hS0 := hG.n
  refine g_aloadn C dX4_does_0 0 rfl rfl ?_
  refine g_get C fx4 w_0 0 0 (v := .ref ((B 1) 0)) rfl (by decide) w_1 rfl dX4_does_1 ?_
  refine g_iloadn C dX4_does_4 1 rfl rfl ?_
  refine g_callWi (w1 := (ow q B o ++ (hw q (B 1) h1 ++ (hw q (B 2) h2 ++ (hw q (B 3) h3 ++ (tw q (B 4) t ++ (sw q (B 5) g))))))) (wr := ([0, 1, 2, 3, 4, 13, 14, 15, 16, 17, 18, 19, 20, 21, 22, 23, 24, 25, 26, 27, 28, 29, 30, 31, 32] : List Nat).filterMap (fun i => (ow q B o ++ (hw q (B 1) h1 ++ (hw q (B 2) h2 ++ (hw q (B 3) h3 ++ (tw q (B 4) t ++ (sw q (B 5) g))))))[i]?)) (isC := [5, 6, 7, 8, 9, 10, 11, 12]) (isR := [0, 1, 2, 3, 4, 13, 14, 15, 16, 17, 18, 19, 20, 21, 22, 23, 24, 25, 26, 27, 28, 29, 30, 31, 32]) (pm := [0, 1, 2, 3, 4, 25, 26, 27, 28, 29, 30, 31, 32, 5, 6, 7, 8, 9, 10, 11, 12, 13, 14, 15, 16, 17, 18, 19, 20, 21, 22, 23, 24]) (w1' := (fun _ => (ow q B o ++ (hw q (B 1) h1 ++ (hw q (B 2) h2 ++ (hw q (B 3) h3 ++ (tw q (B 4) t ++ (sw q (B 5) g)))))))) C (rd_V C (k_X0_has l D q tt (B 1) h1 S N x (by first | assumption | omega) (by first | assumption | omega)) gX4_does_X0_has rfl rfl rfl 1 ok_X0_has rfl 0 rfl rfl (rest := []) rfl rfl (Nat.le_of_ble_eq_true rfl) dX4_does_5 ⟨(Nat.le_of_ble_eq_true rfl), (Nat.le_of_ble_eq_true rfl)⟩ ⟨(Nat.le_of_ble_eq_true rfl), (Nat.le_of_ble_eq_true rfl)⟩) rfl rfl rfl (fun _ => rfl) rfl (fun r_5 _ h_5 => ?_)
  obtain rfl := h_5
  refine g_ifneE C 13 dX4_does_8 rfl rfl (fun c_8 => ?_) (fun c_8 => ?_)
  · refine g_iloadn C dX4_does_13 2 rfl rfl ?_
    obtain ⟨j, hj, ej, ec⟩ := ix_lt (by omega) c_8
    by_cases s_14_0 : y = 0
    · refine g_tin C 40 dX4_does_14 (by rw [s_14_0]; decide) (by rw [s_14_0]; decide) (by rw [s_14_0]; rfl) rfl ?_
      refine g_sipush C 1000 dX4_does_40 (by decide) ?_
      refine g_aloadn C dX4_does_43 0 rfl rfl ?_
      refine g_get C fx4 w_0 0 0 (v := .ref ((B 1) 0)) rfl (by decide) w_1 rfl dX4_does_44 ?_
      refine g_iloadn C dX4_does_47 1 rfl rfl ?_
      refine g_topci (nI j) (ej) ?_
      refine g_callWi (w1 := (ow q B o ++ (hw q (B 1) h1 ++ (hw q (B 2) h2 ++ (hw q (B 3) h3 ++ (tw q (B 4) t ++ (sw q (B 5) g))))))) (wr := ([0, 1, 2, 3, 4, 13, 14, 15, 16, 17, 18, 19, 20, 21, 22, 23, 24, 25, 26, 27, 28, 29, 30, 31, 32] : List Nat).filterMap (fun i => (ow q B o ++ (hw q (B 1) h1 ++ (hw q (B 2) h2 ++ (hw q (B 3) h3 ++ (tw q (B 4) t ++ (sw q (B 5) g))))))[i]?)) (isC := [5, 6, 7, 8, 9, 10, 11, 12]) (isR := [0, 1, 2, 3, 4, 13, 14, 15, 16, 17, 18, 19, 20, 21, 22, 23, 24, 25, 26, 27, 28, 29, 30, 31, 32]) (pm := [0, 1, 2, 3, 4, 25, 26, 27, 28, 29, 30, 31, 32, 5, 6, 7, 8, 9, 10, 11, 12, 13, 14, 15, 16, 17, 18, 19, 20, 21, 22, 23, 24]) (w1' := (fun _ => (ow q B o ++ (hw q (B 1) h1 ++ (hw q (B 2) h2 ++ (hw q (B 3) h3 ++ (tw q (B 4) t ++ (sw q (B 5) g)))))))) C (rd_V C (k_X0_loud l D q tt (B 1) h1 S N j (by first | assumption | omega) (by first | assumption | omega) (by first | assumption | omega)) gX4_does_X0_loud rfl rfl rfl 1 ok_X0_loud rfl 0 rfl rfl (rest := [.int 1000]) rfl rfl (Nat.le_of_ble_eq_true rfl) dX4_does_48 ⟨(Nat.le_of_ble_eq_true rfl), (Nat.le_of_ble_eq_true rfl)⟩ ⟨(Nat.le_of_ble_eq_true rfl), (Nat.le_of_ble_eq_true rfl)⟩) rfl rfl rfl (fun _ => rfl) rfl (fun r_48 _ h_48 => ?_)
      obtain rfl := h_48
      refine g_iadd C dX4_does_51 ?_
      exact g_iret C h1 hr dX4_does_52 (Nat.le_of_ble_eq_true rfl) (Nat.le_of_ble_eq_true rfl) rfl (by unfold R_does; (try simp only [hS0]); (repeat' split) <;> first | exact ⟨rfl, N, hG, rS⟩ | (rw [ec]; exact ⟨rfl, N, hG, rS⟩) | (exfalso; simp only [lg_lt0, lg_gt0, w_le, w_lt, Int32.lt_iff_toInt_lt, Int32.le_iff_toInt_le, ← Int32.toInt_inj, tI_0, tI_1, tI_2, tI_3, tI_4, tI_5, tI_6, tI_7, tI_8, tI_9, tI_10, tI_13, tI_19, tI_20, tI_30, tI_32, tI_40, tI_48, tI_57, tI_59, tI_60, tI_97, tI_99, tI_100, tI_122, tI_200, tI_m1, tI_m2, tI_m3, tI_39, not_and, not_or] at * <;> omega))
    by_cases s_14_1 : y = 1
    · refine g_tin C 53 dX4_does_14 (by rw [s_14_1]; decide) (by rw [s_14_1]; decide) (by rw [s_14_1]; rfl) rfl ?_
      refine g_sipush C 1000 dX4_does_53 (by decide) ?_
      refine g_aloadn C dX4_does_56 0 rfl rfl ?_
      refine g_get C fx4 w_0 0 0 (v := .ref ((B 1) 0)) rfl (by decide) w_1 rfl dX4_does_57 ?_
      refine g_iloadn C dX4_does_60 1 rfl rfl ?_
      refine g_topci (nI j) (ej) ?_
      refine g_callWi (w1 := (ow q B o ++ (hw q (B 1) h1 ++ (hw q (B 2) h2 ++ (hw q (B 3) h3 ++ (tw q (B 4) t ++ (sw q (B 5) g))))))) (wr := ([0, 1, 2, 3, 4, 13, 14, 15, 16, 17, 18, 19, 20, 21, 22, 23, 24, 25, 26, 27, 28, 29, 30, 31, 32] : List Nat).filterMap (fun i => (ow q B o ++ (hw q (B 1) h1 ++ (hw q (B 2) h2 ++ (hw q (B 3) h3 ++ (tw q (B 4) t ++ (sw q (B 5) g))))))[i]?)) (isC := [5, 6, 7, 8, 9, 10, 11, 12]) (isR := [0, 1, 2, 3, 4, 13, 14, 15, 16, 17, 18, 19, 20, 21, 22, 23, 24, 25, 26, 27, 28, 29, 30, 31, 32]) (pm := [0, 1, 2, 3, 4, 25, 26, 27, 28, 29, 30, 31, 32, 5, 6, 7, 8, 9, 10, 11, 12, 13, 14, 15, 16, 17, 18, 19, 20, 21, 22, 23, 24]) (w1' := (fun _ => (ow q B o ++ (hw q (B 1) ((hL h1), (hK h1), (hP h1), (hE h1), (hR h1), (hN h1), (hC h1), (hM h1), (hZ h1), (hJ h1), (hH h1)) ++ (hw q (B 2) h2 ++ (hw q (B 3) h3 ++ (tw q (B 4) t ++ (sw q (B 5) g)))))))) C (rd_V C (k_X0_needs l D q tt (B 1) h1 S N (hP h1) j (by first | assumption | omega) (by first | assumption | omega) (by first | assumption | omega) (rS.P (by omega))) gX4_does_X0_needs rfl rfl rfl 1 ok_X0_needs rfl 0 rfl rfl (rest := [.int 1000]) rfl rfl (Nat.le_of_ble_eq_true rfl) dX4_does_61 ⟨(Nat.le_of_ble_eq_true rfl), (Nat.le_of_ble_eq_true rfl)⟩ ⟨(Nat.le_of_ble_eq_true rfl), (Nat.le_of_ble_eq_true rfl)⟩) rfl rfl rfl (fun _ => rfl) rfl (fun r_61 _ h_61 => ?_)
      obtain rfl := h_61
      refine g_iadd C dX4_does_64 ?_
      exact g_iret C ((hL h1), (hK h1), (hP h1), (hE h1), (hR h1), (hN h1), (hC h1), (hM h1), (hZ h1), (hJ h1), (hH h1)) hr dX4_does_65 (Nat.le_of_ble_eq_true rfl) (Nat.le_of_ble_eq_true rfl) rfl (by unfold R_does; (try simp only [hS0]); (repeat' split) <;> first | exact ⟨rfl, N, hG, rS⟩ | (rw [ec]; exact ⟨rfl, N, hG, rS⟩) | (exfalso; simp only [lg_lt0, lg_gt0, w_le, w_lt, Int32.lt_iff_toInt_lt, Int32.le_iff_toInt_le, ← Int32.toInt_inj, tI_0, tI_1, tI_2, tI_3, tI_4, tI_5, tI_6, tI_7, tI_8, tI_9, tI_10, tI_13, tI_19, tI_20, tI_30, tI_32, tI_40, tI_48, tI_57, tI_59, tI_60, tI_97, tI_99, tI_100, tI_122, tI_200, tI_m1, tI_m2, tI_m3, tI_39, not_and, not_or] at * <;> omega))
    by_cases s_14_2 : y = 2
    · refine g_tin C 66 dX4_does_14 (by rw [s_14_2]; decide) (by rw [s_14_2]; decide) (by rw [s_14_2]; rfl) rfl ?_
      refine g_sipush C 1000 dX4_does_66 (by decide) ?_
      refine g_aloadn C dX4_does_69 0 rfl rfl ?_
      refine g_get C fx4 w_0 0 0 (v := .ref ((B 1) 0)) rfl (by decide) w_1 rfl dX4_does_70 ?_
      refine g_iloadn C dX4_does_73 1 rfl rfl ?_
      refine g_topci (nI j) (ej) ?_
      refine g_callWi (w1 := (ow q B o ++ (hw q (B 1) h1 ++ (hw q (B 2) h2 ++ (hw q (B 3) h3 ++ (tw q (B 4) t ++ (sw q (B 5) g))))))) (wr := ([0, 1, 2, 3, 4, 13, 14, 15, 16, 17, 18, 19, 20, 21, 22, 23, 24, 25, 26, 27, 28, 29, 30, 31, 32] : List Nat).filterMap (fun i => (ow q B o ++ (hw q (B 1) h1 ++ (hw q (B 2) h2 ++ (hw q (B 3) h3 ++ (tw q (B 4) t ++ (sw q (B 5) g))))))[i]?)) (isC := [5, 6, 7, 8, 9, 10, 11, 12]) (isR := [0, 1, 2, 3, 4, 13, 14, 15, 16, 17, 18, 19, 20, 21, 22, 23, 24, 25, 26, 27, 28, 29, 30, 31, 32]) (pm := [0, 1, 2, 3, 4, 25, 26, 27, 28, 29, 30, 31, 32, 5, 6, 7, 8, 9, 10, 11, 12, 13, 14, 15, 16, 17, 18, 19, 20, 21, 22, 23, 24]) (w1' := (fun u_74 => (ow q B o ++ (hw q (B 1) ((hL h1), (hK h1), (hP h1), (hE h1), (hR h1), (hN h1), (hC h1), (hM h1), (hZ h1), u_74.1, u_74.2) ++ (hw q (B 2) h2 ++ (hw q (B 3) h3 ++ (tw q (B 4) t ++ (sw q (B 5) g)))))))) C (rd_V C (k_X0_hears l D q tt (B 1) h1 S N j (by first | assumption | omega) (by first | assumption | omega) (by first | assumption | omega)) gX4_does_X0_hears rfl rfl rfl 1 ok_X0_hears rfl 0 rfl rfl (rest := [.int 1000]) rfl rfl (Nat.le_of_ble_eq_true rfl) dX4_does_74 ⟨(Nat.le_of_ble_eq_true rfl), (Nat.le_of_ble_eq_true rfl)⟩ ⟨(Nat.le_of_ble_eq_true rfl), (Nat.le_of_ble_eq_true rfl)⟩) rfl rfl rfl (fun _ => rfl) rfl (fun r_74 u_74 h_74 => ?_)
      obtain rfl := h_74
      refine g_iadd C dX4_does_77 ?_
      exact g_iret C ((hL h1), (hK h1), (hP h1), (hE h1), (hR h1), (hN h1), (hC h1), (hM h1), (hZ h1), u_74.1, u_74.2) hr dX4_does_78 (Nat.le_of_ble_eq_true rfl) (Nat.le_of_ble_eq_true rfl) rfl (by unfold R_does; (try simp only [hS0]); (repeat' split) <;> first | exact ⟨rfl, N, hG, rS⟩ | (rw [ec]; exact ⟨rfl, N, hG, rS⟩) | (exfalso; simp only [lg_lt0, lg_gt0, w_le, w_lt, Int32.lt_iff_toInt_lt, Int32.le_iff_toInt_le, ← Int32.toInt_inj, tI_0, tI_1, tI_2, tI_3, tI_4, tI_5, tI_6, tI_7, tI_8, tI_9, tI_10, tI_13, tI_19, tI_20, tI_30, tI_32, tI_40, tI_48, tI_57, tI_59, tI_60, tI_97, tI_99, tI_100, tI_122, tI_200, tI_m1, tI_m2, tI_m3, tI_39, not_and, not_or] at * <;> omega))
    have ns_14_0 := lv_neT s_14_0 (a := 0) (by decide)
    have ns_14_1 := lv_neT s_14_1 (a := 1) (by decide)
    have ns_14_2 := lv_neT s_14_2 (a := 2) (by decide)
    refine g_tout C 79 dX4_does_14 (by omega) rfl ?_
    refine g_iconst C (-1) dX4_does_79 (by decide) ?_
    exact g_iret C h1 hr dX4_does_80 (Nat.le_of_ble_eq_true rfl) (Nat.le_of_ble_eq_true rfl) rfl (by unfold R_does; (try simp only [hS0]); (repeat' split) <;> first | exact ⟨rfl, N, hG, rS⟩ | (rw [ec]; exact ⟨rfl, N, hG, rS⟩) | (exfalso; simp only [lg_lt0, lg_gt0, w_le, w_lt, Int32.lt_iff_toInt_lt, Int32.le_iff_toInt_le, ← Int32.toInt_inj, tI_0, tI_1, tI_2, tI_3, tI_4, tI_5, tI_6, tI_7, tI_8, tI_9, tI_10, tI_13, tI_19, tI_20, tI_30, tI_32, tI_40, tI_48, tI_57, tI_59, tI_60, tI_97, tI_99, tI_100, tI_122, tI_200, tI_m1, tI_m2, tI_m3, tI_39, not_and, not_or] at * <;> omega))
  · refine g_iconst C (-1) dX4_does_11 (by decide) ?_
    exact g_iret C h1 hr dX4_does_12 (Nat.le_of_ble_eq_true rfl) (Nat.le_of_ble_eq_true rfl) rfl (by unfold R_does; (try simp only [hS0]); (repeat' split) <;> first | exact ⟨rfl, N, hG, rS⟩ | (rw [ec]; exact ⟨rfl, N, hG, rS⟩) | (exfalso; simp only [lg_lt0, lg_gt0, w_le, w_lt, Int32.lt_iff_toInt_lt, Int32.le_iff_toInt_le, ← Int32.toInt_inj, tI_0, tI_1, tI_2, tI_3, tI_4, tI_5, tI_6, tI_7, tI_8, tI_9, tI_10, tI_13, tI_19, tI_20, tI_30, tI_32, tI_40, tI_48, tI_57, tI_59, tI_60, tI_97, tI_99, tI_100, tI_122, tI_200, tI_m1, tI_m2, tI_m3, tI_39, not_and, not_or] at * <;> omega))

