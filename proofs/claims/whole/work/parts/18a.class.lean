set_option maxRecDepth 100000 in
set_option maxHeartbeats 4000000 in
theorem k_X4_of (l : Launch) (D : va_G) (q : Nat → ClassId) (tt : Nat → Nat) (B : Nat → Nat → Nat) (o : OC) (h1 : HC) (h2 : HC) (h3 : HC) (t : TC) (g : GC) (S : Nat → Int32) (N : Nat) (x : Int32) (y : Int32) (hG : Gd S N) (rS : HR S N h1) : MI l D q tt yX4_of wsX4_of ({ frames := 2, cells := 0, slots := 0, locals := 43 } : Room) [.ref ((B 0) 0), .int x, .int y] (ow q B o ++ (hw q (B 1) h1 ++ (hw q (B 2) h2 ++ (hw q (B 3) h3 ++ (tw q (B 4) t ++ (sw q (B 5) g)))))) (fun (r : Int32) (u : Unit) => r = R_of S x y) (fun (_ : Unit) => (ow q B o ++ (hw q (B 1) h1 ++ (hw q (B 2) h2 ++ (hw q (B 3) h3 ++ (tw q (B 4) t ++ (sw q (B 5) g))))))) 0 0 := by
  refine MI.of RX4 [(0, .ref ((B 0) 0)), (1, .int x), (2, .int y)] (by decide) rfl rfl (Nat.le_of_ble_eq_true rfl) rfl ?_
  intro p e s m args below meth c A C hr hnm
  have w_0 : ∀ w ∈ u_ws RX4 TX4 11, w ∈ wsX4_of := by decide +kernel
  have w_1 : Cond.fieldLink RX4 10 (TX4 0).1 (TX4 0).2.1 (TX4 0).2.2.1 ∈ wsX4_of := by decide +kernel
  have w_2 : ∀ w ∈ u_ws RX0 TX0 11, w ∈ wsX4_of := by decide +kernel
  have w_3 : Cond.fieldLink RX4 120 (TX0 1).1 (TX0 1).2.1 (TX0 1).2.2.1 ∈ wsX4_of := by decide +kernel
  have w_4 : Cond.fieldLink RX4 123 (TX0 2).1 (TX0 2).2.1 (TX0 2).2.2.1 ∈ wsX4_of := by decide +kernel
  have w_5 : Cond.fieldLink RX4 126 (TX0 3).1 (TX0 3).2.1 (TX0 3).2.2.1 ∈ wsX4_of := by decide +kernel
  have w_6 : Cond.fieldLink RX4 129 (TX0 4).1 (TX0 4).2.1 (TX0 4).2.2.1 ∈ wsX4_of := by decide +kernel
  have h8 := hG.le
  have hS0 := hG.n
  refine g_aloadn C dX4_of_0 0 rfl rfl ?_
  refine g_get C fx4 w_0 0 0 (v := .ref ((B 1) 0)) rfl (by decide) w_1 rfl dX4_of_1 ?_
  refine g_iloadn C dX4_of_4 1 rfl rfl ?_
  refine g_callWi (w1 := (ow q B o ++ (hw q (B 1) h1 ++ (hw q (B 2) h2 ++ (hw q (B 3) h3 ++ (tw q (B 4) t ++ (sw q (B 5) g))))))) (wr := ([0, 1, 2, 3, 4, 13, 14, 15, 16, 17, 18, 19, 20, 21, 22, 23, 24, 25, 26, 27, 28, 29, 30, 31, 32] : List Nat).filterMap (fun i => (ow q B o ++ (hw q (B 1) h1 ++ (hw q (B 2) h2 ++ (hw q (B 3) h3 ++ (tw q (B 4) t ++ (sw q (B 5) g))))))[i]?)) (isC := [5, 6, 7, 8, 9, 10, 11, 12]) (isR := [0, 1, 2, 3, 4, 13, 14, 15, 16, 17, 18, 19, 20, 21, 22, 23, 24, 25, 26, 27, 28, 29, 30, 31, 32]) (pm := [0, 1, 2, 3, 4, 25, 26, 27, 28, 29, 30, 31, 32, 5, 6, 7, 8, 9, 10, 11, 12, 13, 14, 15, 16, 17, 18, 19, 20, 21, 22, 23, 24]) (w1' := (fun _ => (ow q B o ++ (hw q (B 1) h1 ++ (hw q (B 2) h2 ++ (hw q (B 3) h3 ++ (tw q (B 4) t ++ (sw q (B 5) g)))))))) C (rd_V C (k_X0_has l D q tt (B 1) h1 S N x (by first | assumption | omega) (by first | assumption | omega)) gX4_of_X0_has rfl rfl rfl 1 ok_X0_has rfl 0 rfl rfl (rest := []) rfl rfl (Nat.le_of_ble_eq_true rfl) dX4_of_5 ⟨(Nat.le_of_ble_eq_true rfl), (Nat.le_of_ble_eq_true rfl)⟩ ⟨(Nat.le_of_ble_eq_true rfl), (Nat.le_of_ble_eq_true rfl)⟩) rfl rfl rfl (fun _ => rfl) rfl (fun r_5 _ h_5 => ?_)
  obtain rfl := h_5
  refine g_ifneE C 13 dX4_of_8 rfl rfl (fun c_8 => ?_) (fun c_8 => ?_)
  · refine g_iloadn C dX4_of_13 2 rfl rfl ?_
    obtain ⟨j, hj, ej, ec⟩ := ix_lt (by omega) c_8
    by_cases s_14_0 : y = 0
    · refine g_tin C 48 dX4_of_14 (by rw [s_14_0]; decide) (by rw [s_14_0]; decide) (by rw [s_14_0]; rfl) rfl ?_
      refine g_aloadn C dX4_of_48 0 rfl rfl ?_
      refine g_get C fx4 w_0 0 0 (v := .ref ((B 1) 0)) rfl (by decide) w_1 rfl dX4_of_49 ?_
      refine g_get C fx0 w_2 5 1 (v := .ref ((B 1) 2)) rfl (by decide) w_3 rfl dX4_of_52 ?_
      refine g_iloadn C dX4_of_55 1 rfl rfl ?_
      refine g_topci (nI j) (ej) ?_
      refine g_iald C 7 (j) (f := (hK h1)) rfl rfl (by omega) (by decide) dX4_of_56 ?_
      refine g_topci (sK S j) (rS.K (by omega)) ?_
      exact g_iret C () hr dX4_of_57 (Nat.le_of_ble_eq_true rfl) (Nat.le_of_ble_eq_true rfl) rfl (by unfold R_of; (try simp only [hS0]); (repeat' split) <;> first | (rw [ec, s_14_0]; rfl) | (rw [ec, s_14_0]; exact c_96.symm) | (rw [ec, s_14_0]; exact ((hG.one hj).2.2.resolve_right c_96).symm) | rfl | (exfalso; simp only [lg_lt0, lg_gt0, w_le, w_lt, Int32.lt_iff_toInt_lt, Int32.le_iff_toInt_le, ← Int32.toInt_inj, tI_0, tI_1, tI_2, tI_3, tI_4, tI_5, tI_6, tI_7, tI_8, tI_9, tI_10, tI_13, tI_19, tI_20, tI_30, tI_32, tI_40, tI_48, tI_57, tI_59, tI_60, tI_97, tI_99, tI_100, tI_122, tI_200, tI_m1, tI_m2, tI_m3, tI_39, not_and, not_or] at * <;> omega))
    by_cases s_14_1 : y = 1
    · refine g_tin C 58 dX4_of_14 (by rw [s_14_1]; decide) (by rw [s_14_1]; decide) (by rw [s_14_1]; rfl) rfl ?_
      refine g_aloadn C dX4_of_58 0 rfl rfl ?_
      refine g_get C fx4 w_0 0 0 (v := .ref ((B 1) 0)) rfl (by decide) w_1 rfl dX4_of_59 ?_
      refine g_get C fx0 w_2 5 2 (v := .ref ((B 1) 3)) rfl (by decide) w_4 rfl dX4_of_62 ?_
      refine g_iloadn C dX4_of_65 1 rfl rfl ?_
      refine g_topci (nI j) (ej) ?_
      refine g_iald C 8 (j) (f := (hP h1)) rfl rfl (by omega) (by decide) dX4_of_66 ?_
      refine g_topci (sP S j) (rS.P (by omega)) ?_
      exact g_iret C () hr dX4_of_67 (Nat.le_of_ble_eq_true rfl) (Nat.le_of_ble_eq_true rfl) rfl (by unfold R_of; (try simp only [hS0]); (repeat' split) <;> first | (rw [ec, s_14_1]; rfl) | (rw [ec, s_14_1]; exact c_96.symm) | (rw [ec, s_14_1]; exact ((hG.one hj).2.2.resolve_right c_96).symm) | rfl | (exfalso; simp only [lg_lt0, lg_gt0, w_le, w_lt, Int32.lt_iff_toInt_lt, Int32.le_iff_toInt_le, ← Int32.toInt_inj, tI_0, tI_1, tI_2, tI_3, tI_4, tI_5, tI_6, tI_7, tI_8, tI_9, tI_10, tI_13, tI_19, tI_20, tI_30, tI_32, tI_40, tI_48, tI_57, tI_59, tI_60, tI_97, tI_99, tI_100, tI_122, tI_200, tI_m1, tI_m2, tI_m3, tI_39, not_and, not_or] at * <;> omega))
    by_cases s_14_2 : y = 2
    · refine g_tin C 68 dX4_of_14 (by rw [s_14_2]; decide) (by rw [s_14_2]; decide) (by rw [s_14_2]; rfl) rfl ?_
      refine g_aloadn C dX4_of_68 0 rfl rfl ?_
      refine g_get C fx4 w_0 0 0 (v := .ref ((B 1) 0)) rfl (by decide) w_1 rfl dX4_of_69 ?_
      refine g_get C fx0 w_2 5 3 (v := .ref ((B 1) 4)) rfl (by decide) w_5 rfl dX4_of_72 ?_
      refine g_iloadn C dX4_of_75 1 rfl rfl ?_
      refine g_topci (nI j) (ej) ?_
      refine g_iald C 9 (j) (f := (hE h1)) rfl rfl (by omega) (by decide) dX4_of_76 ?_
      refine g_topci (sE S j) (rS.E (by omega)) ?_
      exact g_iret C () hr dX4_of_77 (Nat.le_of_ble_eq_true rfl) (Nat.le_of_ble_eq_true rfl) rfl (by unfold R_of; (try simp only [hS0]); (repeat' split) <;> first | (rw [ec, s_14_2]; rfl) | (rw [ec, s_14_2]; exact c_96.symm) | (rw [ec, s_14_2]; exact ((hG.one hj).2.2.resolve_right c_96).symm) | rfl | (exfalso; simp only [lg_lt0, lg_gt0, w_le, w_lt, Int32.lt_iff_toInt_lt, Int32.le_iff_toInt_le, ← Int32.toInt_inj, tI_0, tI_1, tI_2, tI_3, tI_4, tI_5, tI_6, tI_7, tI_8, tI_9, tI_10, tI_13, tI_19, tI_20, tI_30, tI_32, tI_40, tI_48, tI_57, tI_59, tI_60, tI_97, tI_99, tI_100, tI_122, tI_200, tI_m1, tI_m2, tI_m3, tI_39, not_and, not_or] at * <;> omega))
    by_cases s_14_3 : y = 3
    · refine g_tin C 78 dX4_of_14 (by rw [s_14_3]; decide) (by rw [s_14_3]; decide) (by rw [s_14_3]; rfl) rfl ?_
      refine g_aloadn C dX4_of_78 0 rfl rfl ?_
      refine g_get C fx4 w_0 0 0 (v := .ref ((B 1) 0)) rfl (by decide) w_1 rfl dX4_of_79 ?_
      refine g_get C fx0 w_2 5 4 (v := .ref ((B 1) 5)) rfl (by decide) w_6 rfl dX4_of_82 ?_
      refine g_iloadn C dX4_of_85 1 rfl rfl ?_
      refine g_topci (nI j) (ej) ?_
      refine g_iald C 10 (j) (f := (hR h1)) rfl rfl (by omega) (by decide) dX4_of_86 ?_
      refine g_topci (sR S j) (rS.R (by omega)) ?_
      exact g_iret C () hr dX4_of_87 (Nat.le_of_ble_eq_true rfl) (Nat.le_of_ble_eq_true rfl) rfl (by unfold R_of; (try simp only [hS0]); (repeat' split) <;> first | (rw [ec, s_14_3]; rfl) | (rw [ec, s_14_3]; exact c_96.symm) | (rw [ec, s_14_3]; exact ((hG.one hj).2.2.resolve_right c_96).symm) | rfl | (exfalso; simp only [lg_lt0, lg_gt0, w_le, w_lt, Int32.lt_iff_toInt_lt, Int32.le_iff_toInt_le, ← Int32.toInt_inj, tI_0, tI_1, tI_2, tI_3, tI_4, tI_5, tI_6, tI_7, tI_8, tI_9, tI_10, tI_13, tI_19, tI_20, tI_30, tI_32, tI_40, tI_48, tI_57, tI_59, tI_60, tI_97, tI_99, tI_100, tI_122, tI_200, tI_m1, tI_m2, tI_m3, tI_39, not_and, not_or] at * <;> omega))
    by_cases s_14_4 : y = 4
    · refine g_tin C 88 dX4_of_14 (by rw [s_14_4]; decide) (by rw [s_14_4]; decide) (by rw [s_14_4]; rfl) rfl ?_
      refine g_aloadn C dX4_of_88 0 rfl rfl ?_
      refine g_get C fx4 w_0 0 0 (v := .ref ((B 1) 0)) rfl (by decide) w_1 rfl dX4_of_89 ?_
      refine g_iloadn C dX4_of_92 1 rfl rfl ?_
      refine g_topci (nI j) (ej) ?_
      refine g_callWi (w1 := (ow q B o ++ (hw q (B 1) h1 ++ (hw q (B 2) h2 ++ (hw q (B 3) h3 ++ (tw q (B 4) t ++ (sw q (B 5) g))))))) (wr := ([0, 1, 2, 3, 4, 13, 14, 15, 16, 17, 18, 19, 20, 21, 22, 23, 24, 25, 26, 27, 28, 29, 30, 31, 32] : List Nat).filterMap (fun i => (ow q B o ++ (hw q (B 1) h1 ++ (hw q (B 2) h2 ++ (hw q (B 3) h3 ++ (tw q (B 4) t ++ (sw q (B 5) g))))))[i]?)) (isC := [5, 6, 7, 8, 9, 10, 11, 12]) (isR := [0, 1, 2, 3, 4, 13, 14, 15, 16, 17, 18, 19, 20, 21, 22, 23, 24, 25, 26, 27, 28, 29, 30, 31, 32]) (pm := [0, 1, 2, 3, 4, 25, 26, 27, 28, 29, 30, 31, 32, 5, 6, 7, 8, 9, 10, 11, 12, 13, 14, 15, 16, 17, 18, 19, 20, 21, 22, 23, 24]) (w1' := (fun _ => (ow q B o ++ (hw q (B 1) h1 ++ (hw q (B 2) h2 ++ (hw q (B 3) h3 ++ (tw q (B 4) t ++ (sw q (B 5) g)))))))) C (rd_V C (k_X0_doesClap l D q tt (B 1) h1 S N j (by first | assumption | omega) (by first | assumption | omega) (by first | assumption | omega)) gX4_of_X0_doesClap rfl rfl rfl 1 ok_X0_doesClap rfl 0 rfl rfl (rest := []) rfl rfl (Nat.le_of_ble_eq_true rfl) dX4_of_93 ⟨(Nat.le_of_ble_eq_true rfl), (Nat.le_of_ble_eq_true rfl)⟩ ⟨(Nat.le_of_ble_eq_true rfl), (Nat.le_of_ble_eq_true rfl)⟩) rfl rfl rfl (fun _ => rfl) rfl (fun r_93 _ h_93 => ?_)
      obtain rfl := h_93
      refine g_ifeqE C 103 dX4_of_96 rfl rfl (fun c_96 => ?_) (fun c_96 => ?_)
      · refine g_iconst C 0 dX4_of_103 (by decide) ?_
        exact g_iret C () hr dX4_of_104 (Nat.le_of_ble_eq_true rfl) (Nat.le_of_ble_eq_true rfl) rfl (by unfold R_of; (try simp only [hS0]); (repeat' split) <;> first | (rw [ec, s_14_4]; rfl) | (rw [ec, s_14_4]; exact c_96.symm) | (rw [ec, s_14_4]; exact ((hG.one hj).2.2.resolve_right c_96).symm) | rfl | (exfalso; simp only [lg_lt0, lg_gt0, w_le, w_lt, Int32.lt_iff_toInt_lt, Int32.le_iff_toInt_le, ← Int32.toInt_inj, tI_0, tI_1, tI_2, tI_3, tI_4, tI_5, tI_6, tI_7, tI_8, tI_9, tI_10, tI_13, tI_19, tI_20, tI_30, tI_32, tI_40, tI_48, tI_57, tI_59, tI_60, tI_97, tI_99, tI_100, tI_122, tI_200, tI_m1, tI_m2, tI_m3, tI_39, not_and, not_or] at * <;> omega))
      · refine g_iconst C 1 dX4_of_99 (by decide) ?_
        refine g_goto C 104 dX4_of_100 rfl ?_
        exact g_iret C () hr dX4_of_104 (Nat.le_of_ble_eq_true rfl) (Nat.le_of_ble_eq_true rfl) rfl (by unfold R_of; (try simp only [hS0]); (repeat' split) <;> first | (rw [ec, s_14_4]; rfl) | (rw [ec, s_14_4]; exact c_96.symm) | (rw [ec, s_14_4]; exact ((hG.one hj).2.2.resolve_right c_96).symm) | rfl | (exfalso; simp only [lg_lt0, lg_gt0, w_le, w_lt, Int32.lt_iff_toInt_lt, Int32.le_iff_toInt_le, ← Int32.toInt_inj, tI_0, tI_1, tI_2, tI_3, tI_4, tI_5, tI_6, tI_7, tI_8, tI_9, tI_10, tI_13, tI_19, tI_20, tI_30, tI_32, tI_40, tI_48, tI_57, tI_59, tI_60, tI_97, tI_99, tI_100, tI_122, tI_200, tI_m1, tI_m2, tI_m3, tI_39, not_and, not_or] at * <;> omega))
    have ns_14_0 := lv_neT s_14_0 (a := 0) (by decide)
    have ns_14_1 := lv_neT s_14_1 (a := 1) (by decide)
    have ns_14_2 := lv_neT s_14_2 (a := 2) (by decide)
    have ns_14_3 := lv_neT s_14_3 (a := 3) (by decide)
    have ns_14_4 := lv_neT s_14_4 (a := 4) (by decide)
    refine g_tout C 105 dX4_of_14 (by omega) rfl ?_
    refine g_iconst C (-1) dX4_of_105 (by decide) ?_
    exact g_iret C () hr dX4_of_106 (Nat.le_of_ble_eq_true rfl) (Nat.le_of_ble_eq_true rfl) rfl (by unfold R_of; (try simp only [hS0]); (repeat' split) <;> first | exact rfl | rfl | (exfalso; simp only [lg_lt0, lg_gt0, w_le, w_lt, Int32.lt_iff_toInt_lt, Int32.le_iff_toInt_le, ← Int32.toInt_inj, tI_0, tI_1, tI_2, tI_3, tI_4, tI_5, tI_6, tI_7, tI_8, tI_9, tI_10, tI_13, tI_19, tI_20, tI_30, tI_32, tI_40, tI_48, tI_57, tI_59, tI_60, tI_97, tI_99, tI_100, tI_122, tI_200, tI_m1, tI_m2, tI_m3, tI_39, not_and, not_or] at * <;> omega))
  · refine g_iconst C (-1) dX4_of_11 (by decide) ?_
    exact g_iret C () hr dX4_of_12 (Nat.le_of_ble_eq_true rfl) (Nat.le_of_ble_eq_true rfl) rfl (by unfold R_of; (try simp only [hS0]); (repeat' split) <;> first | exact rfl | rfl | (exfalso; simp only [lg_lt0, lg_gt0, w_le, w_lt, Int32.lt_iff_toInt_lt, Int32.le_iff_toInt_le, ← Int32.toInt_inj, tI_0, tI_1, tI_2, tI_3, tI_4, tI_5, tI_6, tI_7, tI_8, tI_9, tI_10, tI_13, tI_19, tI_20, tI_30, tI_32, tI_40, tI_48, tI_57, tI_59, tI_60, tI_97, tI_99, tI_100, tI_122, tI_200, tI_m1, tI_m2, tI_m3, tI_39, not_and, not_or] at * <;> omega))

set_option maxRecDepth 100000 in
set_option maxHeartbeats 4000000 in
theorem k_X4_does (l : Launch) (D : va_G) (q : Nat → ClassId) (tt : Nat → Nat) (B : Nat → Nat → Nat) (o : OC) (h1 : HC) (h2 : HC) (h3 : HC) (t : TC) (g : GC) (S : Nat → Int32) (N : Nat) (x : Int32) (y : Int32) (hG : Gd S N) (rS : HR S N h1) : MI l D q tt yX4_does wsX4_does ({ frames := 3, cells := 0, slots := 0, locals := 66 } : Room) [.ref ((B 0) 0), .int x, .int y] (ow q B o ++ (hw q (B 1) h1 ++ (hw q (B 2) h2 ++ (hw q (B 3) h3 ++ (tw q (B 4) t ++ (sw q (B 5) g)))))) (fun (r : Int32) (u : HC) => r = R_does S N x y ∧ ∃ N2, Gd (S) N2 ∧ HR (S) N2 u) (fun u => (ow q B o ++ (hw q (B 1) u ++ (hw q (B 2) h2 ++ (hw q (B 3) h3 ++ (tw q (B 4) t ++ (sw q (B 5) g))))))) 0 0 := by
  refine MI.of RX4 [(0, .ref ((B 0) 0)), (1, .int x), (2, .int y)] (by decide) rfl rfl (Nat.le_of_ble_eq_true rfl) rfl ?_
  intro p e s m args below meth c A C hr hnm
  have w_0 : ∀ w ∈ u_ws RX4 TX4 11, w ∈ wsX4_does := by decide +kernel
  have w_1 : Cond.fieldLink RX4 10 (TX4 0).1 (TX4 0).2.1 (TX4 0).2.2.1 ∈ wsX4_does := by decide +kernel
  have h8 := hG.le
  have hS0 := hG.n
  refine g_aloadn C dX4_does_0 0 rfl rfl ?_
  refine g_get C fx4 w_0 0 0 (v := .ref ((B 1) 0)) rfl (by decide) w_1 rfl dX4_does_1 ?_
  refine g_iloadn C dX4_does_4 1 rfl rfl ?_
  refine g_callWi (w1 := (ow q B o ++ (hw q (B 1) h1 ++ (hw q (B 2) h2 ++ (hw q (B 3) h3 ++ (tw q (B 4) t ++ (sw q (B 5) g))))))) (wr := ([0, 1, 2, 3, 4, 13, 14, 15, 16, 17, 18, 19, 20, 21, 22, 23, 24, 25, 26, 27, 28, 29, 30, 31, 32] : List Nat).filterMap (fun i => (ow q B o ++ (hw q (B 1) h1 ++ (hw q (B 2) h2 ++ (hw q (B 3) h3 ++ (tw q (B 4) t ++ (sw q (B 5) g))))))[i]?)) (isC := [5, 6, 7, 8, 9, 10, 11, 12]) (isR := [0, 1, 2, 3, 4, 13, 14, 15, 16, 17, 18, 19, 20, 21, 22, 23, 24, 25, 26, 27, 28, 29, 30, 31, 32]) (pm := [0, 1, 2, 3, 4, 25, 26, 27, 28, 29, 30, 31, 32, 5, 6, 7, 8, 9, 10, 11, 12, 13, 14, 15, 16, 17, 18, 19, 20, 21, 22, 23, 24]) (w1' := (fun _ => (ow q B o ++ (hw q (B 1) h1 ++ (hw q (B 2) h2 ++ (hw q (B 3) h3 ++ (tw q (B 4) t ++ (sw q (B 5) g)))))))) C (rd_V C (k_X0_has l D q tt (B 1) h1 S N x (by first | assumption | omega) (by first | assumption | omega)) gX4_does_X0_has rfl rfl rfl 1 ok_X0_has rfl 0 rfl rfl (rest := []) rfl rfl (Nat.le_of_ble_eq_true rfl) dX4_does_5 ⟨(Nat.le_of_ble_eq_true rfl), (Nat.le_of_ble_eq_true rfl)⟩ ⟨(Nat.le_of_ble_eq_true rfl), (Nat.le_of_ble_eq_true rfl)⟩) rfl rfl rfl (fun _ => rfl) rfl (fun r_5 _ h_5 => ?_)
  obtain rfl := h_5
  refine g_ifneE C 13 dX4_does_8 rfl rfl (fun c_8 => ?_) (fun c_8 => ?_)
  · refine g_iloadn C dX4_does_13 2 rfl rfl ?_
    obtain ⟨j, hj, ej, ec⟩ := ix_lt (by omega) c_8
    by_cases s_14_0 : y = 0
    · refine g_tin C 40 dX4_does_14 (by rw [s_14_0]; decide) (by rw [s_14_0]; decide) (by rw [s_14_0]; rfl) rfl ?_
      refine g_sipush C 1000 dX4_does_40 (by decide) ?_
      refine g_aloadn C dX4_does_43 0 rfl rfl ?_
      refine g_get C fx4 w_0 0 0 (v := .ref ((B 1) 0)) rfl (by decide) w_1 rfl dX4_does_44 ?_
      refine g_iloadn C dX4_does_47 1 rfl rfl ?_
      refine g_topci (nI j) (ej) ?_
      refine g_callWi (w1 := (ow q B o ++ (hw q (B 1) h1 ++ (hw q (B 2) h2 ++ (hw q (B 3) h3 ++ (tw q (B 4) t ++ (sw q (B 5) g))))))) (wr := ([0, 1, 2, 3, 4, 13, 14, 15, 16, 17, 18, 19, 20, 21, 22, 23, 24, 25, 26, 27, 28, 29, 30, 31, 32] : List Nat).filterMap (fun i => (ow q B o ++ (hw q (B 1) h1 ++ (hw q (B 2) h2 ++ (hw q (B 3) h3 ++ (tw q (B 4) t ++ (sw q (B 5) g))))))[i]?)) (isC := [5, 6, 7, 8, 9, 10, 11, 12]) (isR := [0, 1, 2, 3, 4, 13, 14, 15, 16, 17, 18, 19, 20, 21, 22, 23, 24, 25, 26, 27, 28, 29, 30, 31, 32]) (pm := [0, 1, 2, 3, 4, 25, 26, 27, 28, 29, 30, 31, 32, 5, 6, 7, 8, 9, 10, 11, 12, 13, 14, 15, 16, 17, 18, 19, 20, 21, 22, 23, 24]) (w1' := (fun _ => (ow q B o ++ (hw q (B 1) h1 ++ (hw q (B 2) h2 ++ (hw q (B 3) h3 ++ (tw q (B 4) t ++ (sw q (B 5) g)))))))) C (rd_V C (k_X0_loud l D q tt (B 1) h1 S N j (by first | assumption | omega) (by first | assumption | omega) (by first | assumption | omega)) gX4_does_X0_loud rfl rfl rfl 1 ok_X0_loud rfl 0 rfl rfl (rest := [.int 1000]) rfl rfl (Nat.le_of_ble_eq_true rfl) dX4_does_48 ⟨(Nat.le_of_ble_eq_true rfl), (Nat.le_of_ble_eq_true rfl)⟩ ⟨(Nat.le_of_ble_eq_true rfl), (Nat.le_of_ble_eq_true rfl)⟩) rfl rfl rfl (fun _ => rfl) rfl (fun r_48 _ h_48 => ?_)
      obtain rfl := h_48
      refine g_iadd C dX4_does_51 ?_
      exact g_iret C h1 hr dX4_does_52 (Nat.le_of_ble_eq_true rfl) (Nat.le_of_ble_eq_true rfl) rfl (by unfold R_does; (try simp only [hS0]); (repeat' split) <;> first | exact ⟨rfl, N, hG, rS⟩ | (rw [ec]; exact ⟨rfl, N, hG, rS⟩) | (exfalso; simp only [lg_lt0, lg_gt0, w_le, w_lt, Int32.lt_iff_toInt_lt, Int32.le_iff_toInt_le, ← Int32.toInt_inj, tI_0, tI_1, tI_2, tI_3, tI_4, tI_5, tI_6, tI_7, tI_8, tI_9, tI_10, tI_13, tI_19, tI_20, tI_30, tI_32, tI_40, tI_48, tI_57, tI_59, tI_60, tI_97, tI_99, tI_100, tI_122, tI_200, tI_m1, tI_m2, tI_m3, tI_39, not_and, not_or] at * <;> omega))
    by_cases s_14_1 : y = 1
    · refine g_tin C 53 dX4_does_14 (by rw [s_14_1]; decide) (by rw [s_14_1]; decide) (by rw [s_14_1]; rfl) rfl ?_
      refine g_sipush C 1000 dX4_does_53 (by decide) ?_
      refine g_aloadn C dX4_does_56 0 rfl rfl ?_
      refine g_get C fx4 w_0 0 0 (v := .ref ((B 1) 0)) rfl (by decide) w_1 rfl dX4_does_57 ?_
      refine g_iloadn C dX4_does_60 1 rfl rfl ?_
      refine g_topci (nI j) (ej) ?_
      refine g_callWi (w1 := (ow q B o ++ (hw q (B 1) h1 ++ (hw q (B 2) h2 ++ (hw q (B 3) h3 ++ (tw q (B 4) t ++ (sw q (B 5) g))))))) (wr := ([0, 1, 2, 3, 4, 13, 14, 15, 16, 17, 18, 19, 20, 21, 22, 23, 24, 25, 26, 27, 28, 29, 30, 31, 32] : List Nat).filterMap (fun i => (ow q B o ++ (hw q (B 1) h1 ++ (hw q (B 2) h2 ++ (hw q (B 3) h3 ++ (tw q (B 4) t ++ (sw q (B 5) g))))))[i]?)) (isC := [5, 6, 7, 8, 9, 10, 11, 12]) (isR := [0, 1, 2, 3, 4, 13, 14, 15, 16, 17, 18, 19, 20, 21, 22, 23, 24, 25, 26, 27, 28, 29, 30, 31, 32]) (pm := [0, 1, 2, 3, 4, 25, 26, 27, 28, 29, 30, 31, 32, 5, 6, 7, 8, 9, 10, 11, 12, 13, 14, 15, 16, 17, 18, 19, 20, 21, 22, 23, 24]) (w1' := (fun _ => (ow q B o ++ (hw q (B 1) ((hL h1), (hK h1), (hP h1), (hE h1), (hR h1), (hN h1), (hC h1), (hM h1), (hZ h1), (hJ h1), (hH h1)) ++ (hw q (B 2) h2 ++ (hw q (B 3) h3 ++ (tw q (B 4) t ++ (sw q (B 5) g)))))))) C (rd_V C (k_X0_needs l D q tt (B 1) h1 S N (hP h1) j (by first | assumption | omega) (by first | assumption | omega) (by first | assumption | omega) (rS.P (by omega))) gX4_does_X0_needs rfl rfl rfl 1 ok_X0_needs rfl 0 rfl rfl (rest := [.int 1000]) rfl rfl (Nat.le_of_ble_eq_true rfl) dX4_does_61 ⟨(Nat.le_of_ble_eq_true rfl), (Nat.le_of_ble_eq_true rfl)⟩ ⟨(Nat.le_of_ble_eq_true rfl), (Nat.le_of_ble_eq_true rfl)⟩) rfl rfl rfl (fun _ => rfl) rfl (fun r_61 _ h_61 => ?_)
      obtain rfl := h_61
      refine g_iadd C dX4_does_64 ?_
      exact g_iret C ((hL h1), (hK h1), (hP h1), (hE h1), (hR h1), (hN h1), (hC h1), (hM h1), (hZ h1), (hJ h1), (hH h1)) hr dX4_does_65 (Nat.le_of_ble_eq_true rfl) (Nat.le_of_ble_eq_true rfl) rfl (by unfold R_does; (try simp only [hS0]); (repeat' split) <;> first | exact ⟨rfl, N, hG, rS⟩ | (rw [ec]; exact ⟨rfl, N, hG, rS⟩) | (exfalso; simp only [lg_lt0, lg_gt0, w_le, w_lt, Int32.lt_iff_toInt_lt, Int32.le_iff_toInt_le, ← Int32.toInt_inj, tI_0, tI_1, tI_2, tI_3, tI_4, tI_5, tI_6, tI_7, tI_8, tI_9, tI_10, tI_13, tI_19, tI_20, tI_30, tI_32, tI_40, tI_48, tI_57, tI_59, tI_60, tI_97, tI_99, tI_100, tI_122, tI_200, tI_m1, tI_m2, tI_m3, tI_39, not_and, not_or] at * <;> omega))
    by_cases s_14_2 : y = 2
    · refine g_tin C 66 dX4_does_14 (by rw [s_14_2]; decide) (by rw [s_14_2]; decide) (by rw [s_14_2]; rfl) rfl ?_
      refine g_sipush C 1000 dX4_does_66 (by decide) ?_
      refine g_aloadn C dX4_does_69 0 rfl rfl ?_
      refine g_get C fx4 w_0 0 0 (v := .ref ((B 1) 0)) rfl (by decide) w_1 rfl dX4_does_70 ?_
      refine g_iloadn C dX4_does_73 1 rfl rfl ?_
      refine g_topci (nI j) (ej) ?_
      refine g_callWi (w1 := (ow q B o ++ (hw q (B 1) h1 ++ (hw q (B 2) h2 ++ (hw q (B 3) h3 ++ (tw q (B 4) t ++ (sw q (B 5) g))))))) (wr := ([0, 1, 2, 3, 4, 13, 14, 15, 16, 17, 18, 19, 20, 21, 22, 23, 24, 25, 26, 27, 28, 29, 30, 31, 32] : List Nat).filterMap (fun i => (ow q B o ++ (hw q (B 1) h1 ++ (hw q (B 2) h2 ++ (hw q (B 3) h3 ++ (tw q (B 4) t ++ (sw q (B 5) g))))))[i]?)) (isC := [5, 6, 7, 8, 9, 10, 11, 12]) (isR := [0, 1, 2, 3, 4, 13, 14, 15, 16, 17, 18, 19, 20, 21, 22, 23, 24, 25, 26, 27, 28, 29, 30, 31, 32]) (pm := [0, 1, 2, 3, 4, 25, 26, 27, 28, 29, 30, 31, 32, 5, 6, 7, 8, 9, 10, 11, 12, 13, 14, 15, 16, 17, 18, 19, 20, 21, 22, 23, 24]) (w1' := (fun u_74 => (ow q B o ++ (hw q (B 1) ((hL h1), (hK h1), (hP h1), (hE h1), (hR h1), (hN h1), (hC h1), (hM h1), (hZ h1), u_74.1, u_74.2) ++ (hw q (B 2) h2 ++ (hw q (B 3) h3 ++ (tw q (B 4) t ++ (sw q (B 5) g)))))))) C (rd_V C (k_X0_hears l D q tt (B 1) h1 S N j (by first | assumption | omega) (by first | assumption | omega) (by first | assumption | omega)) gX4_does_X0_hears rfl rfl rfl 1 ok_X0_hears rfl 0 rfl rfl (rest := [.int 1000]) rfl rfl (Nat.le_of_ble_eq_true rfl) dX4_does_74 ⟨(Nat.le_of_ble_eq_true rfl), (Nat.le_of_ble_eq_true rfl)⟩ ⟨(Nat.le_of_ble_eq_true rfl), (Nat.le_of_ble_eq_true rfl)⟩) rfl rfl rfl (fun _ => rfl) rfl (fun r_74 u_74 h_74 => ?_)
      obtain rfl := h_74
      refine g_iadd C dX4_does_77 ?_
      exact g_iret C ((hL h1), (hK h1), (hP h1), (hE h1), (hR h1), (hN h1), (hC h1), (hM h1), (hZ h1), u_74.1, u_74.2) hr dX4_does_78 (Nat.le_of_ble_eq_true rfl) (Nat.le_of_ble_eq_true rfl) rfl (by unfold R_does; (try simp only [hS0]); (repeat' split) <;> first | exact ⟨rfl, N, hG, rS⟩ | (rw [ec]; exact ⟨rfl, N, hG, rS⟩) | (exfalso; simp only [lg_lt0, lg_gt0, w_le, w_lt, Int32.lt_iff_toInt_lt, Int32.le_iff_toInt_le, ← Int32.toInt_inj, tI_0, tI_1, tI_2, tI_3, tI_4, tI_5, tI_6, tI_7, tI_8, tI_9, tI_10, tI_13, tI_19, tI_20, tI_30, tI_32, tI_40, tI_48, tI_57, tI_59, tI_60, tI_97, tI_99, tI_100, tI_122, tI_200, tI_m1, tI_m2, tI_m3, tI_39, not_and, not_or] at * <;> omega))
    have ns_14_0 := lv_neT s_14_0 (a := 0) (by decide)
    have ns_14_1 := lv_neT s_14_1 (a := 1) (by decide)
    have ns_14_2 := lv_neT s_14_2 (a := 2) (by decide)
    refine g_tout C 79 dX4_does_14 (by omega) rfl ?_
    refine g_iconst C (-1) dX4_does_79 (by decide) ?_
    exact g_iret C h1 hr dX4_does_80 (Nat.le_of_ble_eq_true rfl) (Nat.le_of_ble_eq_true rfl) rfl (by unfold R_does; (try simp only [hS0]); (repeat' split) <;> first | exact ⟨rfl, N, hG, rS⟩ | (rw [ec]; exact ⟨rfl, N, hG, rS⟩) | (exfalso; simp only [lg_lt0, lg_gt0, w_le, w_lt, Int32.lt_iff_toInt_lt, Int32.le_iff_toInt_le, ← Int32.toInt_inj, tI_0, tI_1, tI_2, tI_3, tI_4, tI_5, tI_6, tI_7, tI_8, tI_9, tI_10, tI_13, tI_19, tI_20, tI_30, tI_32, tI_40, tI_48, tI_57, tI_59, tI_60, tI_97, tI_99, tI_100, tI_122, tI_200, tI_m1, tI_m2, tI_m3, tI_39, not_and, not_or] at * <;> omega))
  · refine g_iconst C (-1) dX4_does_11 (by decide) ?_
    exact g_iret C h1 hr dX4_does_12 (Nat.le_of_ble_eq_true rfl) (Nat.le_of_ble_eq_true rfl) rfl (by unfold R_does; (try simp only [hS0]); (repeat' split) <;> first | exact ⟨rfl, N, hG, rS⟩ | (rw [ec]; exact ⟨rfl, N, hG, rS⟩) | (exfalso; simp only [lg_lt0, lg_gt0, w_le, w_lt, Int32.lt_iff_toInt_lt, Int32.le_iff_toInt_le, ← Int32.toInt_inj, tI_0, tI_1, tI_2, tI_3, tI_4, tI_5, tI_6, tI_7, tI_8, tI_9, tI_10, tI_13, tI_19, tI_20, tI_30, tI_32, tI_40, tI_48, tI_57, tI_59, tI_60, tI_97, tI_99, tI_100, tI_122, tI_200, tI_m1, tI_m2, tI_m3, tI_39, not_and, not_or] at * <;> omega))

set_option maxRecDepth 100000 in
set_option maxHeartbeats 4000000 in
theorem k_X4_clap (l : Launch) (D : va_G) (q : Nat → ClassId) (tt : Nat → Nat) (B : Nat → Nat → Nat) (o : OC) (h1 : HC) (h2 : HC) (h3 : HC) (t : TC) (g : GC) (S : Nat → Int32) (N : Nat) (x : Int32) (y : Int32) (hG : Gd S N) (rS : HR S N h1) : MI l D q tt yX4_clap wsX4_clap ({ frames := 2, cells := 0, slots := 0, locals := 43 } : Room) [.ref ((B 0) 0), .int x, .int y] (ow q B o ++ (hw q (B 1) h1 ++ (hw q (B 2) h2 ++ (hw q (B 3) h3 ++ (tw q (B 4) t ++ (sw q (B 5) g)))))) (fun (r : Int32) (u : HC) => r = R_clap S x y ∧ ∃ N2, Gd (S_clap S x y) N2 ∧ HR (S_clap S x y) N2 u) (fun u => (ow q B o ++ (hw q (B 1) u ++ (hw q (B 2) h2 ++ (hw q (B 3) h3 ++ (tw q (B 4) t ++ (sw q (B 5) g))))))) 0 0 := by
  refine MI.of RX4 [(0, .ref ((B 0) 0)), (1, .int x), (2, .int y)] (by decide) rfl rfl (Nat.le_of_ble_eq_true rfl) rfl ?_
  intro p e s m args below meth c A C hr hnm
  have w_0 : ∀ w ∈ u_ws RX4 TX4 11, w ∈ wsX4_clap := by decide +kernel
  have w_1 : Cond.fieldLink RX4 10 (TX4 0).1 (TX4 0).2.1 (TX4 0).2.2.1 ∈ wsX4_clap := by decide +kernel
  have h8 := hG.le
  have hS0 := hG.n
  refine g_aloadn C dX4_clap_0 0 rfl rfl ?_
  refine g_get C fx4 w_0 0 0 (v := .ref ((B 1) 0)) rfl (by decide) w_1 rfl dX4_clap_1 ?_
  refine g_iloadn C dX4_clap_4 1 rfl rfl ?_
  refine g_callWi (w1 := (ow q B o ++ (hw q (B 1) h1 ++ (hw q (B 2) h2 ++ (hw q (B 3) h3 ++ (tw q (B 4) t ++ (sw q (B 5) g))))))) (wr := ([0, 1, 2, 3, 4, 13, 14, 15, 16, 17, 18, 19, 20, 21, 22, 23, 24, 25, 26, 27, 28, 29, 30, 31, 32] : List Nat).filterMap (fun i => (ow q B o ++ (hw q (B 1) h1 ++ (hw q (B 2) h2 ++ (hw q (B 3) h3 ++ (tw q (B 4) t ++ (sw q (B 5) g))))))[i]?)) (isC := [5, 6, 7, 8, 9, 10, 11, 12]) (isR := [0, 1, 2, 3, 4, 13, 14, 15, 16, 17, 18, 19, 20, 21, 22, 23, 24, 25, 26, 27, 28, 29, 30, 31, 32]) (pm := [0, 1, 2, 3, 4, 25, 26, 27, 28, 29, 30, 31, 32, 5, 6, 7, 8, 9, 10, 11, 12, 13, 14, 15, 16, 17, 18, 19, 20, 21, 22, 23, 24]) (w1' := (fun _ => (ow q B o ++ (hw q (B 1) h1 ++ (hw q (B 2) h2 ++ (hw q (B 3) h3 ++ (tw q (B 4) t ++ (sw q (B 5) g)))))))) C (rd_V C (k_X0_has l D q tt (B 1) h1 S N x (by first | assumption | omega) (by first | assumption | omega)) gX4_clap_X0_has rfl rfl rfl 1 ok_X0_has rfl 0 rfl rfl (rest := []) rfl rfl (Nat.le_of_ble_eq_true rfl) dX4_clap_5 ⟨(Nat.le_of_ble_eq_true rfl), (Nat.le_of_ble_eq_true rfl)⟩ ⟨(Nat.le_of_ble_eq_true rfl), (Nat.le_of_ble_eq_true rfl)⟩) rfl rfl rfl (fun _ => rfl) rfl (fun r_5 _ h_5 => ?_)
  obtain rfl := h_5
  refine g_ifeqE C 20 dX4_clap_8 rfl rfl (fun c_8 => ?_) (fun c_8 => ?_)
  · refine g_iconst C (-1) dX4_clap_20 (by decide) ?_
    exact g_iret C h1 hr dX4_clap_21 (Nat.le_of_ble_eq_true rfl) (Nat.le_of_ble_eq_true rfl) rfl (by unfold R_clap S_clap; (try simp only [hS0]); (repeat' split) <;> first | exact ⟨rfl, N, hG, rS⟩ | (rw [ec, c_46]; exact ⟨(by first | exact c_30.symm | exact ((hG.one hj).2.2.resolve_right c_30).symm), N, hG.c (Or.inr rfl), hr_c hG rS hj (Or.inr rfl)⟩) | (rw [ec, hy.resolve_right c_46]; exact ⟨(by first | exact c_30.symm | exact ((hG.one hj).2.2.resolve_right c_30).symm), N, hG.c (Or.inl rfl), hr_c hG rS hj (Or.inl rfl)⟩) | (exfalso; simp only [lg_lt0, lg_gt0, w_le, w_lt, Int32.lt_iff_toInt_lt, Int32.le_iff_toInt_le, ← Int32.toInt_inj, tI_0, tI_1, tI_2, tI_3, tI_4, tI_5, tI_6, tI_7, tI_8, tI_9, tI_10, tI_13, tI_19, tI_20, tI_30, tI_32, tI_40, tI_48, tI_57, tI_59, tI_60, tI_97, tI_99, tI_100, tI_122, tI_200, tI_m1, tI_m2, tI_m3, tI_39, not_and, not_or] at * <;> omega))
  · refine g_iloadn C dX4_clap_11 2 rfl rfl ?_
    refine g_iconst C 0 dX4_clap_12 (by decide) ?_
    refine g_iconst C 1 dX4_clap_13 (by decide) ?_
    refine g_call0i C (rd_S C (k_X4_within l D q tt y 0 1 ) gX4_clap_X4_within rfl rfl rfl 3 ok_X4_within (rest := []) rfl rfl (Nat.le_of_ble_eq_true rfl) dX4_clap_14 ⟨(Nat.le_of_ble_eq_true rfl), (Nat.le_of_ble_eq_true rfl)⟩ ⟨(Nat.le_of_ble_eq_true rfl), (Nat.le_of_ble_eq_true rfl)⟩) (fun _ => rfl) (fun r_14 _ h_14 => ?_)
    obtain rfl := h_14
    refine g_ifneE C 22 dX4_clap_17 rfl rfl (fun c_17 => ?_) (fun c_17 => ?_)
    · obtain ⟨j, hj, ej, ec⟩ := ix_lt (by omega) c_8
      have hy : y = 0 ∨ y = 1 := by
        obtain ⟨i, hi, ei, -⟩ := ix_le (n := 1) (by omega) c_17
        have h2 : i = 0 ∨ i = 1 := by omega
        rcases h2 with rfl | rfl
        · exact Or.inl ei
        · exact Or.inr ei
      refine g_aloadn C dX4_clap_22 0 rfl rfl ?_
      refine g_get C fx4 w_0 0 0 (v := .ref ((B 1) 0)) rfl (by decide) w_1 rfl dX4_clap_23 ?_
      refine g_iloadn C dX4_clap_26 1 rfl rfl ?_
      refine g_topci (nI j) (ej) ?_
      refine g_callWi (w1 := (ow q B o ++ (hw q (B 1) h1 ++ (hw q (B 2) h2 ++ (hw q (B 3) h3 ++ (tw q (B 4) t ++ (sw q (B 5) g))))))) (wr := ([0, 1, 2, 3, 4, 13, 14, 15, 16, 17, 18, 19, 20, 21, 22, 23, 24, 25, 26, 27, 28, 29, 30, 31, 32] : List Nat).filterMap (fun i => (ow q B o ++ (hw q (B 1) h1 ++ (hw q (B 2) h2 ++ (hw q (B 3) h3 ++ (tw q (B 4) t ++ (sw q (B 5) g))))))[i]?)) (isC := [5, 6, 7, 8, 9, 10, 11, 12]) (isR := [0, 1, 2, 3, 4, 13, 14, 15, 16, 17, 18, 19, 20, 21, 22, 23, 24, 25, 26, 27, 28, 29, 30, 31, 32]) (pm := [0, 1, 2, 3, 4, 25, 26, 27, 28, 29, 30, 31, 32, 5, 6, 7, 8, 9, 10, 11, 12, 13, 14, 15, 16, 17, 18, 19, 20, 21, 22, 23, 24]) (w1' := (fun _ => (ow q B o ++ (hw q (B 1) h1 ++ (hw q (B 2) h2 ++ (hw q (B 3) h3 ++ (tw q (B 4) t ++ (sw q (B 5) g)))))))) C (rd_V C (k_X0_doesClap l D q tt (B 1) h1 S N j (by first | assumption | omega) (by first | assumption | omega) (by first | assumption | omega)) gX4_clap_X0_doesClap rfl rfl rfl 1 ok_X0_doesClap rfl 0 rfl rfl (rest := []) rfl rfl (Nat.le_of_ble_eq_true rfl) dX4_clap_27 ⟨(Nat.le_of_ble_eq_true rfl), (Nat.le_of_ble_eq_true rfl)⟩ ⟨(Nat.le_of_ble_eq_true rfl), (Nat.le_of_ble_eq_true rfl)⟩) rfl rfl rfl (fun _ => rfl) rfl (fun r_27 _ h_27 => ?_)
      obtain rfl := h_27
      refine g_ifeqE C 37 dX4_clap_30 rfl rfl (fun c_30 => ?_) (fun c_30 => ?_)
      · refine g_iconst C 0 dX4_clap_37 (by decide) ?_
        refine g_istoren C [(3, .int 0), (0, .ref ((B 0) 0)), (1, .int x), (2, .int y)] dX4_clap_38 rfl (by decide) rfl ?_
        refine g_aloadn C dX4_clap_39 1 rfl rfl ?_
        refine g_get C fx4 w_0 0 0 (v := .ref ((B 1) 0)) rfl (by decide) w_1 rfl dX4_clap_40 ?_
        refine g_iloadn C dX4_clap_43 2 rfl rfl ?_
        refine g_topci (nI j) (ej) ?_
        refine g_iloadn C dX4_clap_44 3 rfl rfl ?_
        refine g_iconst C 1 dX4_clap_45 (by decide) ?_
        refine g_icmp_ne C 53 dX4_clap_46 rfl (fun c_46 => ?_) (fun c_46 => ?_)
        · refine g_iconst C 0 dX4_clap_53 (by decide) ?_
          refine g_callWv (w1 := (ow q B o ++ (hw q (B 1) h1 ++ (hw q (B 2) h2 ++ (hw q (B 3) h3 ++ (tw q (B 4) t ++ (sw q (B 5) g))))))) (wr := ([0, 1, 2, 3, 4, 13, 14, 15, 16, 17, 18, 19, 20, 21, 22, 23, 24, 25, 26, 27, 28, 29, 30, 31, 32] : List Nat).filterMap (fun i => (ow q B o ++ (hw q (B 1) h1 ++ (hw q (B 2) h2 ++ (hw q (B 3) h3 ++ (tw q (B 4) t ++ (sw q (B 5) g))))))[i]?)) (isC := [5, 6, 7, 8, 9, 10, 11, 12]) (isR := [0, 1, 2, 3, 4, 13, 14, 15, 16, 17, 18, 19, 20, 21, 22, 23, 24, 25, 26, 27, 28, 29, 30, 31, 32]) (pm := [0, 1, 2, 3, 4, 25, 26, 27, 28, 29, 30, 31, 32, 5, 6, 7, 8, 9, 10, 11, 12, 13, 14, 15, 16, 17, 18, 19, 20, 21, 22, 23, 24]) (w1' := (fun _ => (ow q B o ++ (hw q (B 1) ((hL h1), (hK h1), (hP h1), (hE h1), (hR h1), (hN h1), (ltC (hC h1) (nI j) 0), (hM h1), (hZ h1), (hJ h1), (hH h1)) ++ (hw q (B 2) h2 ++ (hw q (B 3) h3 ++ (tw q (B 4) t ++ (sw q (B 5) g)))))))) C (rd_V C (k_X0_letClap l D q tt (B 1) h1 (nI j) 0 ) gX4_clap_X0_letClap rfl rfl rfl 2 ok_X0_letClap rfl 0 rfl rfl (rest := []) rfl rfl (Nat.le_of_ble_eq_true rfl) dX4_clap_54 ⟨(Nat.le_of_ble_eq_true rfl), (Nat.le_of_ble_eq_true rfl)⟩ ⟨(Nat.le_of_ble_eq_true rfl), (Nat.le_of_ble_eq_true rfl)⟩) rfl rfl rfl (fun _ => rfl) rfl (fun _ h_54 => ?_)
          refine g_iloadn C dX4_clap_57 0 rfl rfl ?_
          exact g_iret C ((hL h1), (hK h1), (hP h1), (hE h1), (hR h1), (hN h1), (ltC (hC h1) (nI j) 0), (hM h1), (hZ h1), (hJ h1), (hH h1)) hr dX4_clap_58 (Nat.le_of_ble_eq_true rfl) (Nat.le_of_ble_eq_true rfl) rfl (by unfold R_clap S_clap; (try simp only [hS0]); (repeat' split) <;> first | exact ⟨rfl, N, hG, rS⟩ | (rw [ec, c_46]; exact ⟨(by first | exact c_30.symm | exact ((hG.one hj).2.2.resolve_right c_30).symm), N, hG.c (Or.inr rfl), hr_c hG rS hj (Or.inr rfl)⟩) | (rw [ec, hy.resolve_right c_46]; exact ⟨(by first | exact c_30.symm | exact ((hG.one hj).2.2.resolve_right c_30).symm), N, hG.c (Or.inl rfl), hr_c hG rS hj (Or.inl rfl)⟩) | (exfalso; simp only [lg_lt0, lg_gt0, w_le, w_lt, Int32.lt_iff_toInt_lt, Int32.le_iff_toInt_le, ← Int32.toInt_inj, tI_0, tI_1, tI_2, tI_3, tI_4, tI_5, tI_6, tI_7, tI_8, tI_9, tI_10, tI_13, tI_19, tI_20, tI_30, tI_32, tI_40, tI_48, tI_57, tI_59, tI_60, tI_97, tI_99, tI_100, tI_122, tI_200, tI_m1, tI_m2, tI_m3, tI_39, not_and, not_or] at * <;> omega))
        · refine g_iconst C 1 dX4_clap_49 (by decide) ?_
          refine g_goto C 54 dX4_clap_50 rfl ?_
          refine g_callWv (w1 := (ow q B o ++ (hw q (B 1) h1 ++ (hw q (B 2) h2 ++ (hw q (B 3) h3 ++ (tw q (B 4) t ++ (sw q (B 5) g))))))) (wr := ([0, 1, 2, 3, 4, 13, 14, 15, 16, 17, 18, 19, 20, 21, 22, 23, 24, 25, 26, 27, 28, 29, 30, 31, 32] : List Nat).filterMap (fun i => (ow q B o ++ (hw q (B 1) h1 ++ (hw q (B 2) h2 ++ (hw q (B 3) h3 ++ (tw q (B 4) t ++ (sw q (B 5) g))))))[i]?)) (isC := [5, 6, 7, 8, 9, 10, 11, 12]) (isR := [0, 1, 2, 3, 4, 13, 14, 15, 16, 17, 18, 19, 20, 21, 22, 23, 24, 25, 26, 27, 28, 29, 30, 31, 32]) (pm := [0, 1, 2, 3, 4, 25, 26, 27, 28, 29, 30, 31, 32, 5, 6, 7, 8, 9, 10, 11, 12, 13, 14, 15, 16, 17, 18, 19, 20, 21, 22, 23, 24]) (w1' := (fun _ => (ow q B o ++ (hw q (B 1) ((hL h1), (hK h1), (hP h1), (hE h1), (hR h1), (hN h1), (ltC (hC h1) (nI j) 1), (hM h1), (hZ h1), (hJ h1), (hH h1)) ++ (hw q (B 2) h2 ++ (hw q (B 3) h3 ++ (tw q (B 4) t ++ (sw q (B 5) g)))))))) C (rd_V C (k_X0_letClap l D q tt (B 1) h1 (nI j) 1 ) gX4_clap_X0_letClap rfl rfl rfl 2 ok_X0_letClap rfl 0 rfl rfl (rest := []) rfl rfl (Nat.le_of_ble_eq_true rfl) dX4_clap_54 ⟨(Nat.le_of_ble_eq_true rfl), (Nat.le_of_ble_eq_true rfl)⟩ ⟨(Nat.le_of_ble_eq_true rfl), (Nat.le_of_ble_eq_true rfl)⟩) rfl rfl rfl (fun _ => rfl) rfl (fun _ h_54 => ?_)
          refine g_iloadn C dX4_clap_57 0 rfl rfl ?_
          exact g_iret C ((hL h1), (hK h1), (hP h1), (hE h1), (hR h1), (hN h1), (ltC (hC h1) (nI j) 1), (hM h1), (hZ h1), (hJ h1), (hH h1)) hr dX4_clap_58 (Nat.le_of_ble_eq_true rfl) (Nat.le_of_ble_eq_true rfl) rfl (by unfold R_clap S_clap; (try simp only [hS0]); (repeat' split) <;> first | exact ⟨rfl, N, hG, rS⟩ | (rw [ec, c_46]; exact ⟨(by first | exact c_30.symm | exact ((hG.one hj).2.2.resolve_right c_30).symm), N, hG.c (Or.inr rfl), hr_c hG rS hj (Or.inr rfl)⟩) | (rw [ec, hy.resolve_right c_46]; exact ⟨(by first | exact c_30.symm | exact ((hG.one hj).2.2.resolve_right c_30).symm), N, hG.c (Or.inl rfl), hr_c hG rS hj (Or.inl rfl)⟩) | (exfalso; simp only [lg_lt0, lg_gt0, w_le, w_lt, Int32.lt_iff_toInt_lt, Int32.le_iff_toInt_le, ← Int32.toInt_inj, tI_0, tI_1, tI_2, tI_3, tI_4, tI_5, tI_6, tI_7, tI_8, tI_9, tI_10, tI_13, tI_19, tI_20, tI_30, tI_32, tI_40, tI_48, tI_57, tI_59, tI_60, tI_97, tI_99, tI_100, tI_122, tI_200, tI_m1, tI_m2, tI_m3, tI_39, not_and, not_or] at * <;> omega))
      · refine g_iconst C 1 dX4_clap_33 (by decide) ?_
        refine g_goto C 38 dX4_clap_34 rfl ?_
        refine g_istoren C [(3, .int 1), (0, .ref ((B 0) 0)), (1, .int x), (2, .int y)] dX4_clap_38 rfl (by decide) rfl ?_
        refine g_aloadn C dX4_clap_39 1 rfl rfl ?_
        refine g_get C fx4 w_0 0 0 (v := .ref ((B 1) 0)) rfl (by decide) w_1 rfl dX4_clap_40 ?_
        refine g_iloadn C dX4_clap_43 2 rfl rfl ?_
        refine g_topci (nI j) (ej) ?_
        refine g_iloadn C dX4_clap_44 3 rfl rfl ?_
        refine g_iconst C 1 dX4_clap_45 (by decide) ?_
        refine g_icmp_ne C 53 dX4_clap_46 rfl (fun c_46 => ?_) (fun c_46 => ?_)
        · refine g_iconst C 0 dX4_clap_53 (by decide) ?_
          refine g_callWv (w1 := (ow q B o ++ (hw q (B 1) h1 ++ (hw q (B 2) h2 ++ (hw q (B 3) h3 ++ (tw q (B 4) t ++ (sw q (B 5) g))))))) (wr := ([0, 1, 2, 3, 4, 13, 14, 15, 16, 17, 18, 19, 20, 21, 22, 23, 24, 25, 26, 27, 28, 29, 30, 31, 32] : List Nat).filterMap (fun i => (ow q B o ++ (hw q (B 1) h1 ++ (hw q (B 2) h2 ++ (hw q (B 3) h3 ++ (tw q (B 4) t ++ (sw q (B 5) g))))))[i]?)) (isC := [5, 6, 7, 8, 9, 10, 11, 12]) (isR := [0, 1, 2, 3, 4, 13, 14, 15, 16, 17, 18, 19, 20, 21, 22, 23, 24, 25, 26, 27, 28, 29, 30, 31, 32]) (pm := [0, 1, 2, 3, 4, 25, 26, 27, 28, 29, 30, 31, 32, 5, 6, 7, 8, 9, 10, 11, 12, 13, 14, 15, 16, 17, 18, 19, 20, 21, 22, 23, 24]) (w1' := (fun _ => (ow q B o ++ (hw q (B 1) ((hL h1), (hK h1), (hP h1), (hE h1), (hR h1), (hN h1), (ltC (hC h1) (nI j) 0), (hM h1), (hZ h1), (hJ h1), (hH h1)) ++ (hw q (B 2) h2 ++ (hw q (B 3) h3 ++ (tw q (B 4) t ++ (sw q (B 5) g)))))))) C (rd_V C (k_X0_letClap l D q tt (B 1) h1 (nI j) 0 ) gX4_clap_X0_letClap rfl rfl rfl 2 ok_X0_letClap rfl 0 rfl rfl (rest := []) rfl rfl (Nat.le_of_ble_eq_true rfl) dX4_clap_54 ⟨(Nat.le_of_ble_eq_true rfl), (Nat.le_of_ble_eq_true rfl)⟩ ⟨(Nat.le_of_ble_eq_true rfl), (Nat.le_of_ble_eq_true rfl)⟩) rfl rfl rfl (fun _ => rfl) rfl (fun _ h_54 => ?_)
          refine g_iloadn C dX4_clap_57 0 rfl rfl ?_
          exact g_iret C ((hL h1), (hK h1), (hP h1), (hE h1), (hR h1), (hN h1), (ltC (hC h1) (nI j) 0), (hM h1), (hZ h1), (hJ h1), (hH h1)) hr dX4_clap_58 (Nat.le_of_ble_eq_true rfl) (Nat.le_of_ble_eq_true rfl) rfl (by unfold R_clap S_clap; (try simp only [hS0]); (repeat' split) <;> first | exact ⟨rfl, N, hG, rS⟩ | (rw [ec, c_46]; exact ⟨(by first | exact c_30.symm | exact ((hG.one hj).2.2.resolve_right c_30).symm), N, hG.c (Or.inr rfl), hr_c hG rS hj (Or.inr rfl)⟩) | (rw [ec, hy.resolve_right c_46]; exact ⟨(by first | exact c_30.symm | exact ((hG.one hj).2.2.resolve_right c_30).symm), N, hG.c (Or.inl rfl), hr_c hG rS hj (Or.inl rfl)⟩) | (exfalso; simp only [lg_lt0, lg_gt0, w_le, w_lt, Int32.lt_iff_toInt_lt, Int32.le_iff_toInt_le, ← Int32.toInt_inj, tI_0, tI_1, tI_2, tI_3, tI_4, tI_5, tI_6, tI_7, tI_8, tI_9, tI_10, tI_13, tI_19, tI_20, tI_30, tI_32, tI_40, tI_48, tI_57, tI_59, tI_60, tI_97, tI_99, tI_100, tI_122, tI_200, tI_m1, tI_m2, tI_m3, tI_39, not_and, not_or] at * <;> omega))
        · refine g_iconst C 1 dX4_clap_49 (by decide) ?_
          refine g_goto C 54 dX4_clap_50 rfl ?_
          refine g_callWv (w1 := (ow q B o ++ (hw q (B 1) h1 ++ (hw q (B 2) h2 ++ (hw q (B 3) h3 ++ (tw q (B 4) t ++ (sw q (B 5) g))))))) (wr := ([0, 1, 2, 3, 4, 13, 14, 15, 16, 17, 18, 19, 20, 21, 22, 23, 24, 25, 26, 27, 28, 29, 30, 31, 32] : List Nat).filterMap (fun i => (ow q B o ++ (hw q (B 1) h1 ++ (hw q (B 2) h2 ++ (hw q (B 3) h3 ++ (tw q (B 4) t ++ (sw q (B 5) g))))))[i]?)) (isC := [5, 6, 7, 8, 9, 10, 11, 12]) (isR := [0, 1, 2, 3, 4, 13, 14, 15, 16, 17, 18, 19, 20, 21, 22, 23, 24, 25, 26, 27, 28, 29, 30, 31, 32]) (pm := [0, 1, 2, 3, 4, 25, 26, 27, 28, 29, 30, 31, 32, 5, 6, 7, 8, 9, 10, 11, 12, 13, 14, 15, 16, 17, 18, 19, 20, 21, 22, 23, 24]) (w1' := (fun _ => (ow q B o ++ (hw q (B 1) ((hL h1), (hK h1), (hP h1), (hE h1), (hR h1), (hN h1), (ltC (hC h1) (nI j) 1), (hM h1), (hZ h1), (hJ h1), (hH h1)) ++ (hw q (B 2) h2 ++ (hw q (B 3) h3 ++ (tw q (B 4) t ++ (sw q (B 5) g)))))))) C (rd_V C (k_X0_letClap l D q tt (B 1) h1 (nI j) 1 ) gX4_clap_X0_letClap rfl rfl rfl 2 ok_X0_letClap rfl 0 rfl rfl (rest := []) rfl rfl (Nat.le_of_ble_eq_true rfl) dX4_clap_54 ⟨(Nat.le_of_ble_eq_true rfl), (Nat.le_of_ble_eq_true rfl)⟩ ⟨(Nat.le_of_ble_eq_true rfl), (Nat.le_of_ble_eq_true rfl)⟩) rfl rfl rfl (fun _ => rfl) rfl (fun _ h_54 => ?_)
          refine g_iloadn C dX4_clap_57 0 rfl rfl ?_
          exact g_iret C ((hL h1), (hK h1), (hP h1), (hE h1), (hR h1), (hN h1), (ltC (hC h1) (nI j) 1), (hM h1), (hZ h1), (hJ h1), (hH h1)) hr dX4_clap_58 (Nat.le_of_ble_eq_true rfl) (Nat.le_of_ble_eq_true rfl) rfl (by unfold R_clap S_clap; (try simp only [hS0]); (repeat' split) <;> first | exact ⟨rfl, N, hG, rS⟩ | (rw [ec, c_46]; exact ⟨(by first | exact c_30.symm | exact ((hG.one hj).2.2.resolve_right c_30).symm), N, hG.c (Or.inr rfl), hr_c hG rS hj (Or.inr rfl)⟩) | (rw [ec, hy.resolve_right c_46]; exact ⟨(by first | exact c_30.symm | exact ((hG.one hj).2.2.resolve_right c_30).symm), N, hG.c (Or.inl rfl), hr_c hG rS hj (Or.inl rfl)⟩) | (exfalso; simp only [lg_lt0, lg_gt0, w_le, w_lt, Int32.lt_iff_toInt_lt, Int32.le_iff_toInt_le, ← Int32.toInt_inj, tI_0, tI_1, tI_2, tI_3, tI_4, tI_5, tI_6, tI_7, tI_8, tI_9, tI_10, tI_13, tI_19, tI_20, tI_30, tI_32, tI_40, tI_48, tI_57, tI_59, tI_60, tI_97, tI_99, tI_100, tI_122, tI_200, tI_m1, tI_m2, tI_m3, tI_39, not_and, not_or] at * <;> omega))
    · refine g_iconst C (-1) dX4_clap_20 (by decide) ?_
      exact g_iret C h1 hr dX4_clap_21 (Nat.le_of_ble_eq_true rfl) (Nat.le_of_ble_eq_true rfl) rfl (by unfold R_clap S_clap; (try simp only [hS0]); (repeat' split) <;> first | exact ⟨rfl, N, hG, rS⟩ | (rw [ec, c_46]; exact ⟨(by first | exact c_30.symm | exact ((hG.one hj).2.2.resolve_right c_30).symm), N, hG.c (Or.inr rfl), hr_c hG rS hj (Or.inr rfl)⟩) | (rw [ec, hy.resolve_right c_46]; exact ⟨(by first | exact c_30.symm | exact ((hG.one hj).2.2.resolve_right c_30).symm), N, hG.c (Or.inl rfl), hr_c hG rS hj (Or.inl rfl)⟩) | (exfalso; simp only [lg_lt0, lg_gt0, w_le, w_lt, Int32.lt_iff_toInt_lt, Int32.le_iff_toInt_le, ← Int32.toInt_inj, tI_0, tI_1, tI_2, tI_3, tI_4, tI_5, tI_6, tI_7, tI_8, tI_9, tI_10, tI_13, tI_19, tI_20, tI_30, tI_32, tI_40, tI_48, tI_57, tI_59, tI_60, tI_97, tI_99, tI_100, tI_122, tI_200, tI_m1, tI_m2, tI_m3, tI_39, not_and, not_or] at * <;> omega))

set_option maxRecDepth 100000 in
set_option maxHeartbeats 4000000 in
theorem k_X4_room (l : Launch) (D : va_G) (q : Nat → ClassId) (tt : Nat → Nat) (B : Nat → Nat → Nat) (o : OC) (h1 : HC) (h2 : HC) (h3 : HC) (t : TC) (g : GC) (S : Nat → Int32) (N : Nat) (x : Int32) (y : Int32) (hG : Gd S N) (rS : HR S N h1) : MI l D q tt yX4_room wsX4_room ({ frames := 2, cells := 0, slots := 0, locals := 42 } : Room) [.ref ((B 0) 0), .int x, .int y] (ow q B o ++ (hw q (B 1) h1 ++ (hw q (B 2) h2 ++ (hw q (B 3) h3 ++ (tw q (B 4) t ++ (sw q (B 5) g)))))) (fun (r : Int32) (u : Unit) => r = R_room S N x y) (fun (_ : Unit) => (ow q B o ++ (hw q (B 1) h1 ++ (hw q (B 2) h2 ++ (hw q (B 3) h3 ++ (tw q (B 4) t ++ (sw q (B 5) g))))))) 0 0 := by
  refine MI.of RX4 [(0, .ref ((B 0) 0)), (1, .int x), (2, .int y)] (by decide) rfl rfl (Nat.le_of_ble_eq_true rfl) rfl ?_
  intro p e s m args below meth c A C hr hnm
  have w_0 : ∀ w ∈ u_ws RX4 TX4 11, w ∈ wsX4_room := by decide +kernel
  have w_1 : Cond.fieldLink RX4 10 (TX4 0).1 (TX4 0).2.1 (TX4 0).2.2.1 ∈ wsX4_room := by decide +kernel
  have w_2 : ∀ w ∈ u_ws RX0 TX0 11, w ∈ wsX4_room := by decide +kernel
  have w_3 : Cond.fieldLink RX4 152 (TX0 6).1 (TX0 6).2.1 (TX0 6).2.2.1 ∈ wsX4_room := by decide +kernel
  have h8 := hG.le
  have hS0 := hG.n
  refine g_iloadn C dX4_room_0 1 rfl rfl ?_
  refine g_call0i C (rd_S C (k_X4_isRoom l D q tt x ) gX4_room_X4_isRoom rfl rfl rfl 1 ok_X4_isRoom (rest := []) rfl rfl (Nat.le_of_ble_eq_true rfl) dX4_room_1 ⟨(Nat.le_of_ble_eq_true rfl), (Nat.le_of_ble_eq_true rfl)⟩ ⟨(Nat.le_of_ble_eq_true rfl), (Nat.le_of_ble_eq_true rfl)⟩) (fun _ => rfl) (fun r_1 _ h_1 => ?_)
  obtain rfl := h_1
  refine g_ifeqE C 16 dX4_room_4 rfl rfl (fun c_4 => ?_) (fun c_4 => ?_)
  · refine g_iconst C (-1) dX4_room_16 (by decide) ?_
    exact g_iret C () hr dX4_room_17 (Nat.le_of_ble_eq_true rfl) (Nat.le_of_ble_eq_true rfl) rfl (by unfold R_room; (try simp only [hS0]); (repeat' split) <;> first | exact rfl | rfl | (exfalso; simp only [lg_lt0, lg_gt0, w_le, w_lt, Int32.lt_iff_toInt_lt, Int32.le_iff_toInt_le, ← Int32.toInt_inj, tI_0, tI_1, tI_2, tI_3, tI_4, tI_5, tI_6, tI_7, tI_8, tI_9, tI_10, tI_13, tI_19, tI_20, tI_30, tI_32, tI_40, tI_48, tI_57, tI_59, tI_60, tI_97, tI_99, tI_100, tI_122, tI_200, tI_m1, tI_m2, tI_m3, tI_39, not_and, not_or] at * <;> omega))
  · refine g_iloadn C dX4_room_7 2 rfl rfl ?_
    refine g_iconst C 0 dX4_room_8 (by decide) ?_
    refine g_iconst C 1 dX4_room_9 (by decide) ?_
    refine g_call0i C (rd_S C (k_X4_within l D q tt y 0 1 ) gX4_room_X4_within rfl rfl rfl 3 ok_X4_within (rest := []) rfl rfl (Nat.le_of_ble_eq_true rfl) dX4_room_10 ⟨(Nat.le_of_ble_eq_true rfl), (Nat.le_of_ble_eq_true rfl)⟩ ⟨(Nat.le_of_ble_eq_true rfl), (Nat.le_of_ble_eq_true rfl)⟩) (fun _ => rfl) (fun r_10 _ h_10 => ?_)
    obtain rfl := h_10
    refine g_ifneE C 18 dX4_room_13 rfl rfl (fun c_13 => ?_) (fun c_13 => ?_)
    · refine g_aloadn C dX4_room_18 0 rfl rfl ?_
      refine g_get C fx4 w_0 0 0 (v := .ref ((B 1) 0)) rfl (by decide) w_1 rfl dX4_room_19 ?_
      refine g_iloadn C dX4_room_22 1 rfl rfl ?_
      refine g_callWi (w1 := (ow q B o ++ (hw q (B 1) h1 ++ (hw q (B 2) h2 ++ (hw q (B 3) h3 ++ (tw q (B 4) t ++ (sw q (B 5) g))))))) (wr := ([0, 1, 2, 3, 4, 13, 14, 15, 16, 17, 18, 19, 20, 21, 22, 23, 24, 25, 26, 27, 28, 29, 30, 31, 32] : List Nat).filterMap (fun i => (ow q B o ++ (hw q (B 1) h1 ++ (hw q (B 2) h2 ++ (hw q (B 3) h3 ++ (tw q (B 4) t ++ (sw q (B 5) g))))))[i]?)) (isC := [5, 6, 7, 8, 9, 10, 11, 12]) (isR := [0, 1, 2, 3, 4, 13, 14, 15, 16, 17, 18, 19, 20, 21, 22, 23, 24, 25, 26, 27, 28, 29, 30, 31, 32]) (pm := [0, 1, 2, 3, 4, 25, 26, 27, 28, 29, 30, 31, 32, 5, 6, 7, 8, 9, 10, 11, 12, 13, 14, 15, 16, 17, 18, 19, 20, 21, 22, 23, 24]) (w1' := (fun _ => (ow q B o ++ (hw q (B 1) h1 ++ (hw q (B 2) h2 ++ (hw q (B 3) h3 ++ (tw q (B 4) t ++ (sw q (B 5) g)))))))) C (rd_V C (k_X0_inside l D q tt (B 1) h1 S N x (by first | assumption | omega) (by first | assumption | omega)) gX4_room_X0_inside rfl rfl rfl 1 ok_X0_inside rfl 0 rfl rfl (rest := []) rfl rfl (Nat.le_of_ble_eq_true rfl) dX4_room_23 ⟨(Nat.le_of_ble_eq_true rfl), (Nat.le_of_ble_eq_true rfl)⟩ ⟨(Nat.le_of_ble_eq_true rfl), (Nat.le_of_ble_eq_true rfl)⟩) rfl rfl rfl (fun _ => rfl) rfl (fun r_23 _ h_23 => ?_)
      obtain rfl := h_23
      refine g_istoren C [(3, .int (orI (thT S x) N)), (0, .ref ((B 0) 0)), (1, .int x), (2, .int y)] dX4_room_26 rfl (by decide) rfl ?_
      refine g_iloadn C dX4_room_27 3 rfl rfl ?_
      refine g_if_ne C 35 dX4_room_28 rfl (fun c_28 => ?_) (fun c_28 => ?_)
      · refine g_iloadn C dX4_room_35 0 rfl rfl ?_
        refine g_aloadn C dX4_room_36 1 rfl rfl ?_
        refine g_get C fx4 w_0 0 0 (v := .ref ((B 1) 0)) rfl (by decide) w_1 rfl dX4_room_37 ?_
        refine g_get C fx0 w_2 5 6 (v := .int (hC h1)) rfl (by decide) w_3 rfl dX4_room_40 ?_
        refine g_topci (clS S N) (rS.c) ?_
        refine g_iand C dX4_room_43 ?_
        exact g_iret C () hr dX4_room_44 (Nat.le_of_ble_eq_true rfl) (Nat.le_of_ble_eq_true rfl) rfl (by unfold R_room; (try simp only [hS0]); (repeat' split) <;> first | exact rfl | rfl | (exfalso; simp only [lg_lt0, lg_gt0, w_le, w_lt, Int32.lt_iff_toInt_lt, Int32.le_iff_toInt_le, ← Int32.toInt_inj, tI_0, tI_1, tI_2, tI_3, tI_4, tI_5, tI_6, tI_7, tI_8, tI_9, tI_10, tI_13, tI_19, tI_20, tI_30, tI_32, tI_40, tI_48, tI_57, tI_59, tI_60, tI_97, tI_99, tI_100, tI_122, tI_200, tI_m1, tI_m2, tI_m3, tI_39, not_and, not_or] at * <;> omega))
      · refine g_iloadn C dX4_room_31 0 rfl rfl ?_
        refine g_goto C 44 dX4_room_32 rfl ?_
        exact g_iret C () hr dX4_room_44 (Nat.le_of_ble_eq_true rfl) (Nat.le_of_ble_eq_true rfl) rfl (by unfold R_room; (try simp only [hS0]); (repeat' split) <;> first | exact rfl | rfl | (exfalso; simp only [lg_lt0, lg_gt0, w_le, w_lt, Int32.lt_iff_toInt_lt, Int32.le_iff_toInt_le, ← Int32.toInt_inj, tI_0, tI_1, tI_2, tI_3, tI_4, tI_5, tI_6, tI_7, tI_8, tI_9, tI_10, tI_13, tI_19, tI_20, tI_30, tI_32, tI_40, tI_48, tI_57, tI_59, tI_60, tI_97, tI_99, tI_100, tI_122, tI_200, tI_m1, tI_m2, tI_m3, tI_39, not_and, not_or] at * <;> omega))
    · refine g_iconst C (-1) dX4_room_16 (by decide) ?_
      exact g_iret C () hr dX4_room_17 (Nat.le_of_ble_eq_true rfl) (Nat.le_of_ble_eq_true rfl) rfl (by unfold R_room; (try simp only [hS0]); (repeat' split) <;> first | exact rfl | rfl | (exfalso; simp only [lg_lt0, lg_gt0, w_le, w_lt, Int32.lt_iff_toInt_lt, Int32.le_iff_toInt_le, ← Int32.toInt_inj, tI_0, tI_1, tI_2, tI_3, tI_4, tI_5, tI_6, tI_7, tI_8, tI_9, tI_10, tI_13, tI_19, tI_20, tI_30, tI_32, tI_40, tI_48, tI_57, tI_59, tI_60, tI_97, tI_99, tI_100, tI_122, tI_200, tI_m1, tI_m2, tI_m3, tI_39, not_and, not_or] at * <;> omega))

set_option maxRecDepth 100000 in
set_option maxHeartbeats 4000000 in
theorem k_X4_minutes (l : Launch) (D : va_G) (q : Nat → ClassId) (tt : Nat → Nat) (B : Nat → Nat → Nat) (o : OC) (h1 : HC) (h2 : HC) (h3 : HC) (t : TC) (g : GC) (S : Nat → Int32) (N : Nat) (x : Int32) (hG : Gd S N) (rS : HR S N h1) : MI l D q tt yX4_minutes wsX4_minutes ({ frames := 4, cells := 0, slots := 0, locals := 89 } : Room) [.ref ((B 0) 0), .int x] (ow q B o ++ (hw q (B 1) h1 ++ (hw q (B 2) h2 ++ (hw q (B 3) h3 ++ (tw q (B 4) t ++ (sw q (B 5) g)))))) (fun (r : Int32) (u : HC) => r = R_minutes S N x ∧ ∃ N2, Gd (S_minutes S N x) N2 ∧ HR (S_minutes S N x) N2 u) (fun u => (ow q B o ++ (hw q (B 1) u ++ (hw q (B 2) h2 ++ (hw q (B 3) h3 ++ (tw q (B 4) t ++ (sw q (B 5) g))))))) 0 0 := by
  refine MI.of RX4 [(0, .ref ((B 0) 0)), (1, .int x)] (by decide) rfl rfl (Nat.le_of_ble_eq_true rfl) rfl ?_
  intro p e s m args below meth c A C hr hnm
  have w_0 : ∀ w ∈ u_ws RX4 TX4 11, w ∈ wsX4_minutes := by decide +kernel
  have w_1 : Cond.fieldLink RX4 10 (TX4 0).1 (TX4 0).2.1 (TX4 0).2.2.1 ∈ wsX4_minutes := by decide +kernel
  have w_2 : ∀ w ∈ u_ws RX0 TX0 11, w ∈ wsX4_minutes := by decide +kernel
  have w_3 : Cond.fieldLink RX4 152 (TX0 6).1 (TX0 6).2.1 (TX0 6).2.2.1 ∈ wsX4_minutes := by decide +kernel
  have h8 := hG.le
  have hS0 := hG.n
  refine g_iloadn C dX4_minutes_0 1 rfl rfl ?_
  refine g_iconst C 1 dX4_minutes_1 (by decide) ?_
  refine g_bipush C 60 dX4_minutes_2 (by decide) ?_
  refine g_call0i C (rd_S C (k_X4_within l D q tt x 1 60 ) gX4_minutes_X4_within rfl rfl rfl 3 ok_X4_within (rest := []) rfl rfl (Nat.le_of_ble_eq_true rfl) dX4_minutes_4 ⟨(Nat.le_of_ble_eq_true rfl), (Nat.le_of_ble_eq_true rfl)⟩ ⟨(Nat.le_of_ble_eq_true rfl), (Nat.le_of_ble_eq_true rfl)⟩) (fun _ => rfl) (fun r_4 _ h_4 => ?_)
  obtain rfl := h_4
  refine g_ifneE C 12 dX4_minutes_7 rfl rfl (fun c_7 => ?_) (fun c_7 => ?_)
  · obtain ⟨j, hj, ej, ec⟩ := ix_le (n := 60) (by omega) ⟨Int32.le_trans (by decide) c_7.1, c_7.2⟩
    refine g_aloadn C dX4_minutes_12 0 rfl rfl ?_
    refine g_get C fx4 w_0 0 0 (v := .ref ((B 1) 0)) rfl (by decide) w_1 rfl dX4_minutes_13 ?_
    refine g_iloadn C dX4_minutes_16 1 rfl rfl ?_
    refine g_topci (nI j) (ej) ?_
    refine g_callWv (w1 := (ow q B o ++ (hw q (B 1) h1 ++ (hw q (B 2) h2 ++ (hw q (B 3) h3 ++ (tw q (B 4) t ++ (sw q (B 5) g))))))) (wr := ([0, 1, 2, 3, 4, 13, 14, 15, 16, 17, 18, 19, 20, 21, 22, 23, 24, 25, 26, 27, 28, 29, 30, 31, 32] : List Nat).filterMap (fun i => (ow q B o ++ (hw q (B 1) h1 ++ (hw q (B 2) h2 ++ (hw q (B 3) h3 ++ (tw q (B 4) t ++ (sw q (B 5) g))))))[i]?)) (isC := [5, 6, 7, 8, 9, 10, 11, 12]) (isR := [0, 1, 2, 3, 4, 13, 14, 15, 16, 17, 18, 19, 20, 21, 22, 23, 24, 25, 26, 27, 28, 29, 30, 31, 32]) (pm := [0, 1, 2, 3, 4, 25, 26, 27, 28, 29, 30, 31, 32, 5, 6, 7, 8, 9, 10, 11, 12, 13, 14, 15, 16, 17, 18, 19, 20, 21, 22, 23, 24]) (w1' := (fun u_17 => (ow q B o ++ (hw q (B 1) u_17 ++ (hw q (B 2) h2 ++ (hw q (B 3) h3 ++ (tw q (B 4) t ++ (sw q (B 5) g)))))))) C (rd_V C (k_X0_pass l D q tt (B 1) h1 S N j (by first | assumption | omega) (by first | assumption | omega) (by first | assumption | omega)) gX4_minutes_X0_pass rfl rfl rfl 1 ok_X0_pass rfl 0 rfl rfl (rest := []) rfl rfl (Nat.le_of_ble_eq_true rfl) dX4_minutes_17 ⟨(Nat.le_of_ble_eq_true rfl), (Nat.le_of_ble_eq_true rfl)⟩ ⟨(Nat.le_of_ble_eq_true rfl), (Nat.le_of_ble_eq_true rfl)⟩) rfl rfl rfl (fun _ => rfl) rfl (fun u_17 h_17 => ?_)
    have rS_17 := h_17
    refine g_aloadn C dX4_minutes_20 0 rfl rfl ?_
    refine g_get C fx4 w_0 0 0 (v := .ref ((B 1) 0)) rfl (by decide) w_1 rfl dX4_minutes_21 ?_
    refine g_get C fx0 w_2 5 6 (v := .int (hC u_17)) rfl (by decide) w_3 rfl dX4_minutes_24 ?_
    refine g_topci (nI (clN (gosS S N j) N)) (rS_17.c) ?_
    refine g_call0i C (rd_S C (k_J6_bitCount_0f7a4 l D q tt (clN (gosS S N j) N) (clN_256 h8)) gX4_minutes_J6_bitCount_0f7a4 rfl rfl rfl 1 ok_J6_bitCount_0f7a4 (rest := []) rfl rfl (Nat.le_of_ble_eq_true rfl) dX4_minutes_27 ⟨(Nat.le_of_ble_eq_true rfl), (Nat.le_of_ble_eq_true rfl)⟩ ⟨(Nat.le_of_ble_eq_true rfl), (Nat.le_of_ble_eq_true rfl)⟩) (fun _ => rfl) (fun r_27 _ h_27 => ?_)
    obtain rfl := h_27
    exact g_iret C u_17 hr dX4_minutes_30 (Nat.le_of_ble_eq_true rfl) (Nat.le_of_ble_eq_true rfl) rfl (by unfold R_minutes S_minutes; (try simp only [hS0]); (repeat' split) <;> first | exact ⟨rfl, N, hG, rS⟩ | (rw [ec]; exact ⟨rfl, N, hG.gos j, rS_17⟩) | (exfalso; simp only [lg_lt0, lg_gt0, w_le, w_lt, Int32.lt_iff_toInt_lt, Int32.le_iff_toInt_le, ← Int32.toInt_inj, tI_0, tI_1, tI_2, tI_3, tI_4, tI_5, tI_6, tI_7, tI_8, tI_9, tI_10, tI_13, tI_19, tI_20, tI_30, tI_32, tI_40, tI_48, tI_57, tI_59, tI_60, tI_97, tI_99, tI_100, tI_122, tI_200, tI_m1, tI_m2, tI_m3, tI_39, not_and, not_or] at * <;> omega))
  · refine g_iconst C (-1) dX4_minutes_10 (by decide) ?_
    exact g_iret C h1 hr dX4_minutes_11 (Nat.le_of_ble_eq_true rfl) (Nat.le_of_ble_eq_true rfl) rfl (by unfold R_minutes S_minutes; (try simp only [hS0]); (repeat' split) <;> first | exact ⟨rfl, N, hG, rS⟩ | (rw [ec]; exact ⟨rfl, N, hG.gos j, rS_17⟩) | (exfalso; simp only [lg_lt0, lg_gt0, w_le, w_lt, Int32.lt_iff_toInt_lt, Int32.le_iff_toInt_le, ← Int32.toInt_inj, tI_0, tI_1, tI_2, tI_3, tI_4, tI_5, tI_6, tI_7, tI_8, tI_9, tI_10, tI_13, tI_19, tI_20, tI_30, tI_32, tI_40, tI_48, tI_57, tI_59, tI_60, tI_97, tI_99, tI_100, tI_122, tI_200, tI_m1, tI_m2, tI_m3, tI_39, not_and, not_or] at * <;> omega))

set_option maxRecDepth 100000 in
set_option maxHeartbeats 4000000 in
theorem k_X4_seed (l : Launch) (D : va_G) (q : Nat → ClassId) (tt : Nat → Nat) (B : Nat → Nat → Nat) (o : OC) (h1 : HC) (h2 : HC) (h3 : HC) (t : TC) (g : GC) (S : Nat → Int32) (N : Nat) (x : Int32) (hG : Gd S N) (rS : HR S N h1) : MI l D q tt yX4_seed wsX4_seed ({ frames := 0, cells := 0, slots := 0, locals := 0 } : Room) [.ref ((B 0) 0), .int x] (ow q B o ++ (hw q (B 1) h1 ++ (hw q (B 2) h2 ++ (hw q (B 3) h3 ++ (tw q (B 4) t ++ (sw q (B 5) g)))))) (fun (r : Int32) (u : HC) => r = S 2 ∧ ∃ N2, Gd ((upd S 2 x)) N2 ∧ HR ((upd S 2 x)) N2 u) (fun u => (ow q B o ++ (hw q (B 1) u ++ (hw q (B 2) h2 ++ (hw q (B 3) h3 ++ (tw q (B 4) t ++ (sw q (B 5) g))))))) 0 0 := by
  refine MI.of RX4 [(0, .ref ((B 0) 0)), (1, .int x)] (by decide) rfl rfl (Nat.le_of_ble_eq_true rfl) rfl ?_
  intro p e s m args below meth c A C hr hnm
  have w_0 : ∀ w ∈ u_ws RX4 TX4 11, w ∈ wsX4_seed := by decide +kernel
  have w_1 : Cond.fieldLink RX4 10 (TX4 0).1 (TX4 0).2.1 (TX4 0).2.2.1 ∈ wsX4_seed := by decide +kernel
  have w_2 : ∀ w ∈ u_ws RX0 TX0 11, w ∈ wsX4_seed := by decide +kernel
  have w_3 : Cond.fieldLink RX4 74 (TX0 8).1 (TX0 8).2.1 (TX0 8).2.2.1 ∈ wsX4_seed := by decide +kernel
  have h8 := hG.le
  have hS0 := hG.n
  refine g_aloadn C dX4_seed_0 0 rfl rfl ?_
  refine g_get C fx4 w_0 0 0 (v := .ref ((B 1) 0)) rfl (by decide) w_1 rfl dX4_seed_1 ?_
  refine g_get C fx0 w_2 5 8 (v := .int (hZ h1)) rfl (by decide) w_3 rfl dX4_seed_4 ?_
  refine g_topci (S 2) (rS.z) ?_
  refine g_istoren C [(2, .int (S 2)), (0, .ref ((B 0) 0)), (1, .int x)] dX4_seed_7 rfl (by decide) rfl ?_
  refine g_aloadn C dX4_seed_8 1 rfl rfl ?_
  refine g_get C fx4 w_0 0 0 (v := .ref ((B 1) 0)) rfl (by decide) w_1 rfl dX4_seed_9 ?_
  refine g_iloadn C dX4_seed_12 2 rfl rfl ?_
  refine g_put C fx0 w_2 5 8 rfl (by decide) w_3 rfl rfl rfl (Nat.le_of_ble_eq_true rfl) dX4_seed_13 (ow q B o ++ (hw q (B 1) ((hL h1), (hK h1), (hP h1), (hE h1), (hR h1), (hN h1), (hC h1), (hM h1), x, (hJ h1), (hH h1)) ++ (hw q (B 2) h2 ++ (hw q (B 3) h3 ++ (tw q (B 4) t ++ (sw q (B 5) g)))))) rfl ?_
  refine g_iloadn C dX4_seed_16 0 rfl rfl ?_
  exact g_iret C ((hL h1), (hK h1), (hP h1), (hE h1), (hR h1), (hN h1), (hC h1), (hM h1), x, (hJ h1), (hH h1)) hr dX4_seed_17 (Nat.le_of_ble_eq_true rfl) (Nat.le_of_ble_eq_true rfl) rfl (⟨rfl, N, hG.z x, hr_z x rS⟩)

set_option maxRecDepth 100000 in
set_option maxHeartbeats 4000000 in
theorem k_X4_minute (l : Launch) (D : va_G) (q : Nat → ClassId) (tt : Nat → Nat) (B : Nat → Nat → Nat) (o : OC) (h1 : HC) (h2 : HC) (h3 : HC) (t : TC) (g : GC) (S : Nat → Int32) (N : Nat) (hG : Gd S N) (rS : HR S N h1) : MI l D q tt yX4_minute wsX4_minute ({ frames := 4, cells := 0, slots := 0, locals := 88 } : Room) [.ref ((B 0) 0)] (ow q B o ++ (hw q (B 1) h1 ++ (hw q (B 2) h2 ++ (hw q (B 3) h3 ++ (tw q (B 4) t ++ (sw q (B 5) g)))))) (fun (r : Int32) (u : HC) => r = (nI (pop (clN (mnS S N) N))) ∧ ∃ N2, Gd ((mnS S N)) N2 ∧ HR ((mnS S N)) N2 u) (fun u => (ow q B o ++ (hw q (B 1) u ++ (hw q (B 2) h2 ++ (hw q (B 3) h3 ++ (tw q (B 4) t ++ (sw q (B 5) g))))))) 0 0 := by
  refine MI.of RX4 [(0, .ref ((B 0) 0))] (by decide) rfl rfl (Nat.le_of_ble_eq_true rfl) rfl ?_
  intro p e s m args below meth c A C hr hnm
  have w_0 : ∀ w ∈ u_ws RX4 TX4 11, w ∈ wsX4_minute := by decide +kernel
  have w_1 : Cond.fieldLink RX4 10 (TX4 0).1 (TX4 0).2.1 (TX4 0).2.2.1 ∈ wsX4_minute := by decide +kernel
  have w_2 : ∀ w ∈ u_ws RX0 TX0 11, w ∈ wsX4_minute := by decide +kernel
  have w_3 : Cond.fieldLink RX4 152 (TX0 6).1 (TX0 6).2.1 (TX0 6).2.2.1 ∈ wsX4_minute := by decide +kernel
  have h8 := hG.le
  have hS0 := hG.n
  refine g_aloadn C dX4_minute_0 0 rfl rfl ?_
  refine g_get C fx4 w_0 0 0 (v := .ref ((B 1) 0)) rfl (by decide) w_1 rfl dX4_minute_1 ?_
  refine g_callWv (w1 := (ow q B o ++ (hw q (B 1) h1 ++ (hw q (B 2) h2 ++ (hw q (B 3) h3 ++ (tw q (B 4) t ++ (sw q (B 5) g))))))) (wr := ([0, 1, 2, 3, 4, 13, 14, 15, 16, 17, 18, 19, 20, 21, 22, 23, 24, 25, 26, 27, 28, 29, 30, 31, 32] : List Nat).filterMap (fun i => (ow q B o ++ (hw q (B 1) h1 ++ (hw q (B 2) h2 ++ (hw q (B 3) h3 ++ (tw q (B 4) t ++ (sw q (B 5) g))))))[i]?)) (isC := [5, 6, 7, 8, 9, 10, 11, 12]) (isR := [0, 1, 2, 3, 4, 13, 14, 15, 16, 17, 18, 19, 20, 21, 22, 23, 24, 25, 26, 27, 28, 29, 30, 31, 32]) (pm := [0, 1, 2, 3, 4, 25, 26, 27, 28, 29, 30, 31, 32, 5, 6, 7, 8, 9, 10, 11, 12, 13, 14, 15, 16, 17, 18, 19, 20, 21, 22, 23, 24]) (w1' := (fun u_4 => (ow q B o ++ (hw q (B 1) u_4 ++ (hw q (B 2) h2 ++ (hw q (B 3) h3 ++ (tw q (B 4) t ++ (sw q (B 5) g)))))))) C (rd_V C (k_X0_passByDraws l D q tt (B 1) h1 S N (by first | assumption | omega) (by first | assumption | omega)) gX4_minute_X0_passByDraws rfl rfl rfl 0 ok_X0_passByDraws rfl 0 rfl rfl (rest := []) rfl rfl (Nat.le_of_ble_eq_true rfl) dX4_minute_4 ⟨(Nat.le_of_ble_eq_true rfl), (Nat.le_of_ble_eq_true rfl)⟩ ⟨(Nat.le_of_ble_eq_true rfl), (Nat.le_of_ble_eq_true rfl)⟩) rfl rfl rfl (fun _ => rfl) rfl (fun u_4 h_4 => ?_)
  have rS_4 := h_4
  refine g_aloadn C dX4_minute_7 0 rfl rfl ?_
  refine g_get C fx4 w_0 0 0 (v := .ref ((B 1) 0)) rfl (by decide) w_1 rfl dX4_minute_8 ?_
  refine g_get C fx0 w_2 5 6 (v := .int (hC u_4)) rfl (by decide) w_3 rfl dX4_minute_11 ?_
  refine g_topci (nI (clN (mnS S N) N)) (rS_4.c) ?_
  refine g_call0i C (rd_S C (k_J6_bitCount_0f7a4 l D q tt (clN (mnS S N) N) (clN_256 h8)) gX4_minute_J6_bitCount_0f7a4 rfl rfl rfl 1 ok_J6_bitCount_0f7a4 (rest := []) rfl rfl (Nat.le_of_ble_eq_true rfl) dX4_minute_14 ⟨(Nat.le_of_ble_eq_true rfl), (Nat.le_of_ble_eq_true rfl)⟩ ⟨(Nat.le_of_ble_eq_true rfl), (Nat.le_of_ble_eq_true rfl)⟩) (fun _ => rfl) (fun r_14 _ h_14 => ?_)
  obtain rfl := h_14
  exact g_iret C u_4 hr dX4_minute_17 (Nat.le_of_ble_eq_true rfl) (Nat.le_of_ble_eq_true rfl) rfl (⟨rfl, N, hG.mn, rS_4⟩)

