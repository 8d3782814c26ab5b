set_option maxRecDepth 100000 in
set_option maxHeartbeats 4000000 in
theorem k_X4_room (l : Launch) (D : va_G) (q : Nat → ClassId) (tt : Nat → Nat) (B : Nat → Nat → Nat) (o : OC) (h1 : HC) (h2 : HC) (h3 : HC) (t : TC) (g : GC) (S : Nat → Int32) (N : Nat) (x : Int32) (y : Int32) (hG : Gd S N) (rS : HR S N h1) : MI l D q tt yX4_room wsX4_room ({ frames := 2, cells := 0, slots := 0, locals := 42 } : Room) [.ref ((B 0) 0), .int x, .int y] (ow q B o ++ (hw q (B 1) h1 ++ (hw q (B 2) h2 ++ (hw q (B 3) h3 ++ (tw q (B 4) t ++ (sw q (B 5) g)))))) (fun (r : Int32) (u : Unit) => r = R_room S N x y) (fun (_ : Unit) => (ow q B o ++ (hw q (B 1) h1 ++ (hw q (B 2) h2 ++ (hw q (B 3) h3 ++ (tw q (B 4) t ++ (sw q (B 5) g))))))) 0 0 := by
  refine MI.of RX4 [(0, .ref ((B 0) 0)), (1, .int x), (2, .int y)] (by decide) rfl rfl (Nat.le_of_ble_eq_true rfl) rfl ?_
  intro p e s m args below meth c A C hr hnm
  have w_0 : ∀ w ∈ u_ws RX4 TX4 11, w ∈ wsX4_room := by decide +kernel
  have w_1 : Cond.fieldLink RX4 10 (TX4 0).1 (TX4 0).2.1 (TX4 0).2.2.1 ∈ wsX4_room := by decide +kernel
  have w_2 : ∀ w ∈ u_ws RX0 TX0 11, w ∈ wsX4_room := by decide +kernel
  have w_3 : Cond.fieldLink RX4 152 (TX0 6).1 (TX0 6).2.1 (TX0 6).2.2.1 ∈ wsX4_room := by decide +kernel
  have h8 := hG.le
  have hS0 := hG.n
  refine g_iloadn C dX4_room_0 1 rfl rfl ?_
  refine g_call0i C (rd_S C (k_X4_isRoom l D q tt x ) gX4_room_X4_isRoom rfl rfl rfl 1 ok_X4_isRoom (rest := []) rfl rfl (Nat.le_of_ble_eq_true rfl) dX4_room_1 ⟨(Nat.le_of_ble_eq_true rfl), (Nat.le_of_ble_eq_true rfl)⟩ ⟨(Nat.le_of_ble_eq_true rfl), (Nat.le_of_ble_eq_true rfl)⟩) (fun _ => rfl) (fun r_1 _ h_1 => ?_)
  obtain rfl := h_1
  refine g_ifeqE C 16 dX4_room_4 rfl rfl (fun c_4 => ?_) (fun c_4 => ?_)
  · refine g_iconst C (-1) dX4_room_16 (by decide) ?_
    exact g_iret C () hr dX4_room_17 (Nat.le_of_ble_eq_true rfl) (Nat.le_of_ble_eq_true rfl) rfl (by unfold R_room; (try simp only [hS0]); (repeat' split) <;> first | exact rfl | rfl | (exfalso; simp only [lg_lt0, lg_gt0, w_le, w_lt, Int32.lt_iff_toInt_lt, Int32.le_iff_toInt_le, ← Int32.toInt_inj, tI_0, tI_1, tI_2, tI_3, tI_4, tI_5, tI_6, tI_7, tI_8, tI_9, tI_10, tI_13, tI_19, tI_20, tI_30, tI_32, tI_40, tI_48, tI_57, tI_59, tI_60, tI_97, tI_99, tI_100, tI_122, tI_200, tI_m1, tI_m2, tI_m3, tI_39, not_and, not_or] at * <;> omega))
  · refine g_iloadn C dX4_room_7 2 rfl rfl ?_
    refine g_iconst C 0 dX4_room_8 (by decide) ?_
    refine g_iconst C 1 dX4_room_9 (by decide) ?_
    refine g_call0i C (rd_S C (k_X4_within l D q tt y 0 1 ) gX4_room_X4_within rfl rfl rfl 3 ok_X4_within (rest := []) rfl rfl (Nat.le_of_ble_eq_true rfl) dX4_room_10 ⟨(Nat.le_of_ble_eq_true rfl), (Nat.le_of_ble_eq_true rfl)⟩ ⟨(Nat.le_of_ble_eq_true rfl), (Nat.le_of_ble_eq_true rfl)⟩) (fun _ => rfl) (fun r_10 _ h_10 => ?_)
    obtain rfl := h_10
    refine g_ifneE C 18 dX4_room_13 rfl rfl (fun c_13 => ?_) (fun c_13 => ?_)
    · refine g_aloadn C dX4_room_18 0 rfl rfl ?_
      refine g_get C fx4 w_0 0 0 (v := .ref ((B 1) 0)) rfl (by decide) w_1 rfl dX4_room_19 ?_
      refine g_iloadn C dX4_room_22 1 rfl rfl ?_
      refine g_callWi (w1 := (ow q B o ++ (hw q (B 1) h1 ++ (hw q (B 2) h2 ++ (hw q (B 3) h3 ++ (tw q (B 4) t ++ (sw q (B 5) g))))))) (wr := ([0, 1, 2, 3, 4, 13, 14, 15, 16, 17, 18, 19, 20, 21, 22, 23, 24, 25, 26, 27, 28, 29, 30, 31, 32] : List Nat).filterMap (fun i => (ow q B o ++ (hw q (B 1) h1 ++ (hw q (B 2) h2 ++ (hw q (B 3) h3 ++ (tw q (B 4) t ++ (sw q (B 5) g))))))[i]?)) (isC := [5, 6, 7, 8, 9, 10, 11, 12]) (isR := [0, 1, 2, 3, 4, 13, 14, 15, 16, 17, 18, 19, 20, 21, 22, 23, 24, 25, 26, 27, 28, 29, 30, 31, 32]) (pm := [0, 1, 2, 3, 4, 25, 26, 27, 28, 29, 30, 31, 32, 5, 6, 7, 8, 9, 10, 11, 12, 13, 14, 15, 16, 17, 18, 19, 20, 21, 22, 23, 24]) (w1' := (fun _ => (ow q B o ++ (hw q (B 1) h1 ++ (hw q (B 2) h2 ++ (hw q (B 3) h3 ++ (tw q (B 4) t ++ (sw q (B 5) g)))))))) C (rd_V C (k_X0_inside l D q tt (B 1) h1 S N x (by first | assumption | omega) (by first | assumption | omega)) gX4_room_X0_inside rfl rfl rfl 1 ok_X0_inside rfl 0 rfl rfl (rest := []) rfl rfl (Nat.le_of_ble_eq_true rfl) dX4_room_23 ⟨(Nat.le_of_ble_eq_true rfl), (Nat.le_of_ble_eq_true rfl)⟩ ⟨(Nat.le_of_ble_eq_true rfl), (Nat.le_of_ble_eq_true rfl)⟩) rfl rfl rfl (fun _ => rfl) rfl (fun r_23 _ h_23 => ?_)
      obtain rfl := h_23
      refine g_istoren C [(3, .int (orI (thT S x) N)), (0, .ref ((B 0) 0)), (1, .int x), (2, .int y)] dX4_room_26 rfl (by decide) rfl ?_
      refine g_iloadn C dX4_room_27 3 rfl rfl ?_
      refine g_if_ne C 35 dX4_room_28 rfl (fun c_28 => ?_) (fun c_28 => ?_)
      · refine g_iloadn C dX4_room_35 0 rfl rfl ?_
        refine g_aloadn C dX4_room_36 1 rfl rfl ?_
        refine g_get C fx4 w_0 0 0 (v := .ref ((B 1) 0)) rfl (by decide) w_1 rfl dX4_room_37 ?_
        refine g_get C fx0 w_2 5 6 (v := .int (hC h1)) rfl (by decide) w_3 rfl dX4_room_40 ?_
        refine g_topci (clS S N) (rS.c) ?_
        refine g_iand C dX4_room_43 ?_
        exact g_iret C () hr dX4_room_44 (Nat.le_of_ble_eq_true rfl) (Nat.le_of_ble_eq_true rfl) rfl (by unfold R_room; (try simp only [hS0]); (repeat' split) <;> first | exact rfl | rfl | (exfalso; simp only [lg_lt0, lg_gt0, w_le, w_lt, Int32.lt_iff_toInt_lt, Int32.le_iff_toInt_le, ← Int32.toInt_inj, tI_0, tI_1, tI_2, tI_3, tI_4, tI_5, tI_6, tI_7, tI_8, tI_9, tI_10, tI_13, tI_19, tI_20, tI_30, tI_32, tI_40, tI_48, tI_57, tI_59, tI_60, tI_97, tI_99, tI_100, tI_122, tI_200, tI_m1, tI_m2, tI_m3, tI_39, not_and, not_or] at * <;> omega))
      · refine g_iloadn C dX4_room_31 0 rfl rfl ?_
        refine g_goto C 44 dX4_room_32 rfl ?_
        exact g_iret C () hr dX4_room_44 (Nat.le_of_ble_eq_true rfl) (Nat.le_of_ble_eq_true rfl) rfl (by unfold R_room; (try simp only [hS0]); (repeat' split) <;> first | exact rfl | rfl | (exfalso; simp only [lg_lt0, lg_gt0, w_le, w_lt, Int32.lt_iff_toInt_lt, Int32.le_iff_toInt_le, ← Int32.toInt_inj, tI_0, tI_1, tI_2, tI_3, tI_4, tI_5, tI_6, tI_7, tI_8, tI_9, tI_10, tI_13, tI_19, tI_20, tI_30, tI_32, tI_40, tI_48, tI_57, tI_59, tI_60, tI_97, tI_99, tI_100, tI_122, tI_200, tI_m1, tI_m2, tI_m3, tI_39, not_and, not_or] at * <;> omega))
    · refine g_iconst C (-1) dX4_room_16 (by decide) ?_
      exact g_iret C () hr dX4_room_17 (Nat.le_of_ble_eq_true rfl) (Nat.le_of_ble_eq_true rfl) rfl (by unfold R_room; (try simp only [hS0]); (repeat' split) <;> first | exact rfl | rfl | (exfalso; simp only [lg_lt0, lg_gt0, w_le, w_lt, Int32.lt_iff_toInt_lt, Int32.le_iff_toInt_le, ← Int32.toInt_inj, tI_0, tI_1, tI_2, tI_3, tI_4, tI_5, tI_6, tI_7, tI_8, tI_9, tI_10, tI_13, tI_19, tI_20, tI_30, tI_32, tI_40, tI_48, tI_57, tI_59, tI_60, tI_97, tI_99, tI_100, tI_122, tI_200, tI_m1, tI_m2, tI_m3, tI_39, not_and, not_or] at * <;> omega))

