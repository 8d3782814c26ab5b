set_option maxRecDepth 100000 in
set_option maxHeartbeats 4000000 in
theorem k_X4_of (l : Launch) (D : va_G) (q : Nat → ClassId) (tt : Nat → Nat) (B : Nat → Nat → Nat) (o : OC) (h1 : HC) (h2 : HC) (h3 : HC) (t : TC) (g : GC) (S : Nat → Int32) (N : Nat) (x : Int32) (y : Int32) (hG : Gd S N) (rS : HR S N h1) : MI l D q tt yX4_of wsX4_of ({ frames := 2, cells := 0, slots := 0, locals := 43 } : Room) [.ref ((B 0) 0), .int x, .int y] (ow q B o ++ (hw q (B 1) h1 ++ (hw q (B 2) h2 ++ (hw q (B 3) h3 ++ (tw q (B 4) t ++ (sw q (B 5) g)))))) (fun (r : Int32) (u : Unit) => r = R_of S x y) (fun (_ : Unit) => (ow q B o ++ (hw q (B 1) h1 ++ (hw q (B 2) h2 ++ (hw q (B 3) h3 ++ (tw q (B 4) t ++ (sw q (B 5) g))))))) 0 0 := by
  refine MI.of RX4 [(0, .ref ((B 0) 0)), (1, .int x), (2, .int y)] (by decide) rfl rfl (Nat.le_of_ble_eq_true rfl) rfl ?_
  intro p e s m args below meth c A C hr hnm
  have w_0 : ∀ w ∈ u_ws RX4 TX4 11, w ∈ wsX4_of := by decide +kernel
  have w_1 : Cond.fieldLink RX4 10 (TX4 0).1 (TX4 0).2.1 (TX4 0).2.2.1 ∈ wsX4_of := by decide +kernel
  have w_2 : ∀ w ∈ u_ws RX0 TX0 11, w ∈ wsX4_of := by decide +kernel
  have w_3 : Cond.fieldLink RX4 120 (TX0 1).1 (TX0 1).2.1 (TX0 1).2.2.1 ∈ wsX4_of := by decide +kernel
  have w_4 : Cond.fieldLink RX4 123 (TX0 2).1 (TX0 2).2.1 (TX0 2).2.2.1 ∈ wsX4_of := by decide +kernel
  have w_5 : Cond.fieldLink RX4 126 (TX0 3).1 (TX0 3).2.1 (TX0 3).2.2.1 ∈ wsX4_of := by decide +kernel
  have w_6 : Cond.fieldLink RX4 129 (TX0 4).1 (TX0 4).2.1 (TX0 4).2.2.1 ∈ wsX4_of := by decide +kernel
  have h8 := hG.le
  have hS0 := hG.n
  refine g_aloadn C dX4_of_0 0 rfl rfl ?_
  refine g_get C fx4 w_0 0 0 (v := .ref ((B 1) 0)) rfl (by decide) w_1 rfl dX4_of_1 ?_
  refine g_iloadn C dX4_of_4 1 rfl rfl ?_
  refine g_callWi (w1 := (ow q B o ++ (hw q (B 1) h1 ++ (hw q (B 2) h2 ++ (hw q (B 3) h3 ++ (tw q (B 4) t ++ (sw q (B 5) g))))))) (wr := ([0, 1, 2, 3, 4, 13, 14, 15, 16, 17, 18, 19, 20, 21, 22, 23, 24, 25, 26, 27, 28, 29, 30, 31, 32] : List Nat).filterMap (fun i => (ow q B o ++ (hw q (B 1) h1 ++ (hw q (B 2) h2 ++ (hw q (B 3) h3 ++ (tw q (B 4) t ++ (sw q (B 5) g))))))[i]?)) (isC := [5, 6, 7, 8, 9, 10, 11, 12]) (isR := [0, 1, 2, 3, 4, 13, 14, 15, 16, 17, 18, 19, 20, 21, 22, 23, 24, 25, 26, 27, 28, 29, 30, 31, 32]) (pm := [0, 1, 2, 3, 4, 25, 26, 27, 28, 29, 30, 31, 32, 5, 6, 7, 8, 9, 10, 11, 12, 13, 14, 15, 16, 17, 18, 19, 20, 21, 22, 23, 24]) (w1' := (fun _ => (ow q B o ++ (hw q (B 1) h1 ++ (hw q (B 2) h2 ++ (hw q (B 3) h3 ++ (tw q (B 4) t ++ (sw q (B 5) g)))))))) C (rd_V C (k_X0_has l D q tt (B 1) h1 S N x (by first | assumption | omega) (by first | assumption | omega)) gX4_of_X0_has rfl rfl rfl 1 ok_X0_has rfl 0 rfl rfl (rest := []) rfl rfl (Nat.le_of_ble_eq_true rfl) dX4_of_5 ⟨(Nat.le_of_ble_eq_true rfl), (Nat.le_of_ble_eq_true rfl)⟩ ⟨(Nat.le_of_ble_eq_true rfl), (Nat.le_of_ble_eq_true rfl)⟩) rfl rfl rfl (fun _ => rfl) rfl (fun r_5 _ h_5 => ?_)
  obtain rfl := h_5
  refine g_ifneE C 13 dX4_of_8 rfl rfl (fun c_8 => ?_) (fun c_8 => ?_)
  · refine g_iloadn C dX4_of_13 2 rfl rfl ?_
    obtain ⟨j, hj, ej, ec⟩ := ix_lt (by omega) c_8
    by_cases s_14_0 : y = 0
    · refine g_tin C 48 dX4_of_14 (by rw [s_14_0]; decide) (by rw [s_14_0]; decide) (by rw [s_14_0]; rfl) rfl ?_
      refine g_aloadn C dX4_of_48 0 rfl rfl ?_
      refine g_get C fx4 w_0 0 0 (v := .ref ((B 1) 0)) rfl (by decide) w_1 rfl dX4_of_49 ?_
      refine g_get C fx0 w_2 5 1 (v := .ref ((B 1) 2)) rfl (by decide) w_3 rfl dX4_of_52 ?_
      refine g_iloadn C dX4_of_55 1 rfl rfl ?_
      refine g_topci (nI j) (ej) ?_
      refine g_iald C 7 (j) (f := (hK h1)) rfl rfl (by omega) (by decide) dX4_of_56 ?_
      refine g_topci (sK S j) (rS.K (by omega)) ?_
      exact g_iret C () hr dX4_of_57 (Nat.le_of_ble_eq_true rfl) (Nat.le_of_ble_eq_true rfl) rfl (by unfold R_of; (try simp only [hS0]); (repeat' split) <;> first | (rw [ec, s_14_0]; rfl) | (rw [ec, s_14_0]; exact c_96.symm) | (rw [ec, s_14_0]; exact ((hG.one hj).2.2.resolve_right c_96).symm) | rfl | (exfalso; simp only [lg_lt0, lg_gt0, w_le, w_lt, Int32.lt_iff_toInt_lt, Int32.le_iff_toInt_le, ← Int32.toInt_inj, tI_0, tI_1, tI_2, tI_3, tI_4, tI_5, tI_6, tI_7, tI_8, tI_9, tI_10, tI_13, tI_19, tI_20, tI_30, tI_32, tI_40, tI_48, tI_57, tI_59, tI_60, tI_97, tI_99, tI_100, tI_122, tI_200, tI_m1, tI_m2, tI_m3, tI_39, not_and, not_or] at * <;> omega))
    by_cases s_14_1 : y = 1
    · refine g_tin C 58 dX4_of_14 (by rw [s_14_1]; decide) (by rw [s_14_1]; decide) (by rw [s_14_1]; rfl) rfl ?_
      refine g_aloadn C dX4_of_58 0 rfl rfl ?_
      refine g_get C fx4 w_0 0 0 (v := .ref ((B 1) 0)) rfl (by decide) w_1 rfl dX4_of_59 ?_
      refine g_get C fx0 w_2 5 2 (v := .ref ((B 1) 3)) rfl (by decide) w_4 rfl dX4_of_62 ?_
      refine g_iloadn C dX4_of_65 1 rfl rfl ?_
      refine g_topci (nI j) (ej) ?_
      refine g_iald C 8 (j) (f := (hP h1)) rfl rfl (by omega) (by decide) dX4_of_66 ?_
      refine g_topci (sP S j) (rS.P (by omega)) ?_
      exact g_iret C () hr dX4_of_67 (Nat.le_of_ble_eq_true rfl) (Nat.le_of_ble_eq_true rfl) rfl (by unfold R_of; (try simp only [hS0]); (repeat' split) <;> first | (rw [ec, s_14_1]; rfl) | (rw [ec, s_14_1]; exact c_96.symm) | (rw [ec, s_14_1]; exact ((hG.one hj).2.2.resolve_right c_96).symm) | rfl | (exfalso; simp only [lg_lt0, lg_gt0, w_le, w_lt, Int32.lt_iff_toInt_lt, Int32.le_iff_toInt_le, ← Int32.toInt_inj, tI_0, tI_1, tI_2, tI_3, tI_4, tI_5, tI_6, tI_7, tI_8, tI_9, tI_10, tI_13, tI_19, tI_20, tI_30, tI_32, tI_40, tI_48, tI_57, tI_59, tI_60, tI_97, tI_99, tI_100, tI_122, tI_200, tI_m1, tI_m2, tI_m3, tI_39, not_and, not_or] at * <;> omega))
    by_cases s_14_2 : y = 2
    · refine g_tin C 68 dX4_of_14 (by rw [s_14_2]; decide) (by rw [s_14_2]; decide) (by rw [s_14_2]; rfl) rfl ?_
      refine g_aloadn C dX4_of_68 0 rfl rfl ?_
      refine g_get C fx4 w_0 0 0 (v := .ref ((B 1) 0)) rfl (by decide) w_1 rfl dX4_of_69 ?_
      refine g_get C fx0 w_2 5 3 (v := .ref ((B 1) 4)) rfl (by decide) w_5 rfl dX4_of_72 ?_
      refine g_iloadn C dX4_of_75 1 rfl rfl ?_
      refine g_topci (nI j) (ej) ?_
      refine g_iald C 9 (j) (f := (hE h1)) rfl rfl (by omega) (by decide) dX4_of_76 ?_
      refine g_topci (sE S j) (rS.E (by omega)) ?_
      exact g_iret C () hr dX4_of_77 (Nat.le_of_ble_eq_true rfl) (Nat.le_of_ble_eq_true rfl) rfl (by unfold R_of; (try simp only [hS0]); (repeat' split) <;> first | (rw [ec, s_14_2]; rfl) | (rw [ec, s_14_2]; exact c_96.symm) | (rw [ec, s_14_2]; exact ((hG.one hj).2.2.resolve_right c_96).symm) | rfl | (exfalso; simp only [lg_lt0, lg_gt0, w_le, w_lt, Int32.lt_iff_toInt_lt, Int32.le_iff_toInt_le, ← Int32.toInt_inj, tI_0, tI_1, tI_2, tI_3, tI_4, tI_5, tI_6, tI_7, tI_8, tI_9, tI_10, tI_13, tI_19, tI_20, tI_30, tI_32, tI_40, tI_48, tI_57, tI_59, tI_60, tI_97, tI_99, tI_100, tI_122, tI_200, tI_m1, tI_m2, tI_m3, tI_39, not_and, not_or] at * <;> omega))
    by_cases s_14_3 : y = 3
    · refine g_tin C 78 dX4_of_14 (by rw [s_14_3]; decide) (by rw [s_14_3]; decide) (by rw [s_14_3]; rfl) rfl ?_
      refine g_aloadn C dX4_of_78 0 rfl rfl ?_
      refine g_get C fx4 w_0 0 0 (v := .ref ((B 1) 0)) rfl (by decide) w_1 rfl dX4_of_79 ?_
      refine g_get C fx0 w_2 5 4 (v := .ref ((B 1) 5)) rfl (by decide) w_6 rfl dX4_of_82 ?_
      refine g_iloadn C dX4_of_85 1 rfl rfl ?_
      refine g_topci (nI j) (ej) ?_
      refine g_iald C 10 (j) (f := (hR h1)) rfl rfl (by omega) (by decide) dX4_of_86 ?_
      refine g_topci (sR S j) (rS.R (by omega)) ?_
      exact g_iret C () hr dX4_of_87 (Nat.le_of_ble_eq_true rfl) (Nat.le_of_ble_eq_true rfl) rfl (by unfold R_of; (try simp only [hS0]); (repeat' split) <;> first | (rw [ec, s_14_3]; rfl) | (rw [ec, s_14_3]; exact c_96.symm) | (rw [ec, s_14_3]; exact ((hG.one hj).2.2.resolve_right c_96).symm) | rfl | (exfalso; simp only [lg_lt0, lg_gt0, w_le, w_lt, Int32.lt_iff_toInt_lt, Int32.le_iff_toInt_le, ← Int32.toInt_inj, tI_0, tI_1, tI_2, tI_3, tI_4, tI_5, tI_6, tI_7, tI_8, tI_9, tI_10, tI_13, tI_19, tI_20, tI_30, tI_32, tI_40, tI_48, tI_57, tI_59, tI_60, tI_97, tI_99, tI_100, tI_122, tI_200, tI_m1, tI_m2, tI_m3, tI_39, not_and, not_or] at * <;> omega))
    by_cases s_14_4 : y = 4
    · refine g_tin C 88 dX4_of_14 (by rw [s_14_4]; decide) (by rw [s_14_4]; decide) (by rw [s_14_4]; rfl) rfl ?_
      refine g_aloadn C dX4_of_88 0 rfl rfl ?_
      refine g_get C fx4 w_0 0 0 (v := .ref ((B 1) 0)) rfl (by decide) w_1 rfl dX4_of_89 ?_
      refine g_iloadn C dX4_of_92 1 rfl rfl ?_
      refine g_topci (nI j) (ej) ?_
      refine g_callWi (w1 := (ow q B o ++ (hw q (B 1) h1 ++ (hw q (B 2) h2 ++ (hw q (B 3) h3 ++ (tw q (B 4) t ++ (sw q (B 5) g))))))) (wr := ([0, 1, 2, 3, 4, 13, 14, 15, 16, 17, 18, 19, 20, 21, 22, 23, 24, 25, 26, 27, 28, 29, 30, 31, 32] : List Nat).filterMap (fun i => (ow q B o ++ (hw q (B 1) h1 ++ (hw q (B 2) h2 ++ (hw q (B 3) h3 ++ (tw q (B 4) t ++ (sw q (B 5) g))))))[i]?)) (isC := [5, 6, 7, 8, 9, 10, 11, 12]) (isR := [0, 1, 2, 3, 4, 13, 14, 15, 16, 17, 18, 19, 20, 21, 22, 23, 24, 25, 26, 27, 28, 29, 30, 31, 32]) (pm := [0, 1, 2, 3, 4, 25, 26, 27, 28, 29, 30, 31, 32, 5, 6, 7, 8, 9, 10, 11, 12, 13, 14, 15, 16, 17, 18, 19, 20, 21, 22, 23, 24]) (w1' := (fun _ => (ow q B o ++ (hw q (B 1) h1 ++ (hw q (B 2) h2 ++ (hw q (B 3) h3 ++ (tw q (B 4) t ++ (sw q (B 5) g)))))))) C (rd_V C (k_X0_doesClap l D q tt (B 1) h1 S N j (by first | assumption | omega) (by first | assumption | omega) (by first | assumption | omega)) gX4_of_X0_doesClap rfl rfl rfl 1 ok_X0_doesClap rfl 0 rfl rfl (rest := []) rfl rfl (Nat.le_of_ble_eq_true rfl) dX4_of_93 ⟨(Nat.le_of_ble_eq_true rfl), (Nat.le_of_ble_eq_true rfl)⟩ ⟨(Nat.le_of_ble_eq_true rfl), (Nat.le_of_ble_eq_true rfl)⟩) rfl rfl rfl (fun _ => rfl) rfl (fun r_93 _ h_93 => ?_)
      obtain rfl := h_93
      refine g_ifeqE C 103 dX4_of_96 rfl rfl (fun c_96 => ?_) (fun c_96 => ?_)
      · refine g_iconst C 0 dX4_of_103 (by decide) ?_
        exact g_iret C () hr dX4_of_104 (Nat.le_of_ble_eq_true rfl) (Nat.le_of_ble_eq_true rfl) rfl (by unfold R_of; (try simp only [hS0]); (repeat' split) <;> first | (rw [ec, s_14_4]; rfl) | (rw [ec, s_14_4]; exact c_96.symm) | (rw [ec, s_14_4]; exact ((hG.one hj).2.2.resolve_right c_96).symm) | rfl | (exfalso; simp only [lg_lt0, lg_gt0, w_le, w_lt, Int32.lt_iff_toInt_lt, Int32.le_iff_toInt_le, ← Int32.toInt_inj, tI_0, tI_1, tI_2, tI_3, tI_4, tI_5, tI_6, tI_7, tI_8, tI_9, tI_10, tI_13, tI_19, tI_20, tI_30, tI_32, tI_40, tI_48, tI_57, tI_59, tI_60, tI_97, tI_99, tI_100, tI_122, tI_200, tI_m1, tI_m2, tI_m3, tI_39, not_and, not_or] at * <;> omega))
      · refine g_iconst C 1 dX4_of_99 (by decide) ?_
        refine g_goto C 104 dX4_of_100 rfl ?_
        exact g_iret C () hr dX4_of_104 (Nat.le_of_ble_eq_true rfl) (Nat.le_of_ble_eq_true rfl) rfl (by unfold R_of; (try simp only [hS0]); (repeat' split) <;> first | (rw [ec, s_14_4]; rfl) | (rw [ec, s_14_4]; exact c_96.symm) | (rw [ec, s_14_4]; exact ((hG.one hj).2.2.resolve_right c_96).symm) | rfl | (exfalso; simp only [lg_lt0, lg_gt0, w_le, w_lt, Int32.lt_iff_toInt_lt, Int32.le_iff_toInt_le, ← Int32.toInt_inj, tI_0, tI_1, tI_2, tI_3, tI_4, tI_5, tI_6, tI_7, tI_8, tI_9, tI_10, tI_13, tI_19, tI_20, tI_30, tI_32, tI_40, tI_48, tI_57, tI_59, tI_60, tI_97, tI_99, tI_100, tI_122, tI_200, tI_m1, tI_m2, tI_m3, tI_39, not_and, not_or] at * <;> omega))
    have ns_14_0 := lv_neT s_14_0 (a := 0) (by decide)
    have ns_14_1 := lv_neT s_14_1 (a := 1) (by decide)
    have ns_14_2 := lv_neT s_14_2 (a := 2) (by decide)
    have ns_14_3 := lv_neT s_14_3 (a := 3) (by decide)
    have ns_14_4 := lv_neT s_14_4 (a := 4) (by decide)
    refine g_tout C 105 dX4_of_14 (by omega) rfl ?_
    refine g_iconst C (-1) dX4_of_105 (by decide) ?_
    exact g_iret C () hr dX4_of_106 (Nat.le_of_ble_eq_true rfl) (Nat.le_of_ble_eq_true rfl) rfl (by unfold R_of; (try simp only [hS0]); (repeat' split) <;> first | exact rfl | rfl | (exfalso; simp only [lg_lt0, lg_gt0, w_le, w_lt, Int32.lt_iff_toInt_lt, Int32.le_iff_toInt_le, ← Int32.toInt_inj, tI_0, tI_1, tI_2, tI_3, tI_4, tI_5, tI_6, tI_7, tI_8, tI_9, tI_10, tI_13, tI_19, tI_20, tI_30, tI_32, tI_40, tI_48, tI_57, tI_59, tI_60, tI_97, tI_99, tI_100, tI_122, tI_200, tI_m1, tI_m2, tI_m3, tI_39, not_and, not_or] at * <;> omega))
  · refine g_iconst C (-1) dX4_of_11 (by decide) ?_
    exact g_iret C () hr dX4_of_12 (Nat.le_of_ble_eq_true rfl) (Nat.le_of_ble_eq_true rfl) rfl (by unfold R_of; (try simp only [hS0]); (repeat' split) <;> first | exact rfl | rfl | (exfalso; simp only [lg_lt0, lg_gt0, w_le, w_lt, Int32.lt_iff_toInt_lt, Int32.le_iff_toInt_le, ← Int32.toInt_inj, tI_0, tI_1, tI_2, tI_3, tI_4, tI_5, tI_6, tI_7, tI_8, tI_9, tI_10, tI_13, tI_19, tI_20, tI_30, tI_32, tI_40, tI_48, tI_57, tI_59, tI_60, tI_97, tI_99, tI_100, tI_122, tI_200, tI_m1, tI_m2, tI_m3, tI_39, not_and, not_or] at * <;> omega))

