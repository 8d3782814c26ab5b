set_option maxRecDepth 100000 in
set_option maxHeartbeats 4000000 in
theorem k_X4_state (l : Launch) (D : va_G) (q : Nat → ClassId) (tt : Nat → Nat) (B : Nat → Nat → Nat) (o : OC) (h1 : HC) (h2 : HC) (h3 : HC) (t : TC) (g : GC) (S : Nat → Int32) (N : Nat) (x : Int32) (hG : Gd S N) (rS : HR S N h1) : MI l D q tt yX4_state wsX4_state ({ frames := 2, cells := 0, slots := 0, locals := 44 } : Room) [.ref ((B 0) 0), .int x] (ow q B o ++ (hw q (B 1) h1 ++ (hw q (B 2) h2 ++ (hw q (B 3) h3 ++ (tw q (B 4) t ++ (sw q (B 5) g)))))) (fun (r : Int32) (u : Unit) => r = R_state S N x) (fun (_ : Unit) => (ow q B o ++ (hw q (B 1) h1 ++ (hw q (B 2) h2 ++ (hw q (B 3) h3 ++ (tw q (B 4) t ++ (sw q (B 5) g))))))) 0 0 := by
  refine MI.of RX4 [(0, .ref ((B 0) 0)), (1, .int x)] (by decide) rfl rfl (Nat.le_of_ble_eq_true rfl) rfl ?_
  intro p e s m args below meth c A C hr hnm
  have w_0 : ∀ w ∈ u_ws RX4 TX4 11, w ∈ wsX4_state := by decide +kernel
  have w_1 : Cond.fieldLink RX4 10 (TX4 0).1 (TX4 0).2.1 (TX4 0).2.2.1 ∈ wsX4_state := by decide +kernel
  have w_2 : ∀ w ∈ u_ws RX0 TX0 11, w ∈ wsX4_state := by decide +kernel
  have w_3 : Cond.fieldLink RX4 170 (TX0 7).1 (TX0 7).2.1 (TX0 7).2.2.1 ∈ wsX4_state := by decide +kernel
  have w_4 : Cond.fieldLink RX4 152 (TX0 6).1 (TX0 6).2.1 (TX0 6).2.2.1 ∈ wsX4_state := by decide +kernel
  have w_5 : Cond.fieldLink RX4 123 (TX0 2).1 (TX0 2).2.1 (TX0 2).2.2.1 ∈ wsX4_state := by decide +kernel
  have w_6 : Cond.fieldLink RX4 126 (TX0 3).1 (TX0 3).2.1 (TX0 3).2.2.1 ∈ wsX4_state := by decide +kernel
  have h8 := hG.le
  have hS0 := hG.n
  refine g_iloadn C dX4_state_0 1 rfl rfl ?_
  by_cases s_1_0 : x = 0
  · refine g_tin C 40 dX4_state_1 (by rw [s_1_0]; decide) (by rw [s_1_0]; decide) (by rw [s_1_0]; rfl) rfl ?_
    refine g_aloadn C dX4_state_40 0 rfl rfl ?_
    refine g_get C fx4 w_0 0 0 (v := .ref ((B 1) 0)) rfl (by decide) w_1 rfl dX4_state_41 ?_
    refine g_get C fx0 w_2 5 7 (v := .int (hM h1)) rfl (by decide) w_3 rfl dX4_state_44 ?_
    refine g_topci (S 1) (rS.m) ?_
    exact g_iret C () hr dX4_state_47 (Nat.le_of_ble_eq_true rfl) (Nat.le_of_ble_eq_true rfl) rfl (by unfold R_state; rw [if_pos s_1_0])
  by_cases s_1_1 : x = 1
  · refine g_tin C 48 dX4_state_1 (by rw [s_1_1]; decide) (by rw [s_1_1]; decide) (by rw [s_1_1]; rfl) rfl ?_
    refine g_aloadn C dX4_state_48 0 rfl rfl ?_
    refine g_get C fx4 w_0 0 0 (v := .ref ((B 1) 0)) rfl (by decide) w_1 rfl dX4_state_49 ?_
    refine g_get C fx0 w_2 5 6 (v := .int (hC h1)) rfl (by decide) w_4 rfl dX4_state_52 ?_
    refine g_topci (clS S N) (rS.c) ?_
    exact g_iret C () hr dX4_state_55 (Nat.le_of_ble_eq_true rfl) (Nat.le_of_ble_eq_true rfl) rfl (by unfold R_state; rw [if_neg s_1_0, if_pos s_1_1])
  by_cases s_1_2 : x = 2
  · refine g_tin C 56 dX4_state_1 (by rw [s_1_2]; decide) (by rw [s_1_2]; decide) (by rw [s_1_2]; rfl) rfl ?_
    refine g_aloadn C dX4_state_56 0 rfl rfl ?_
    refine g_get C fx4 w_0 0 0 (v := .ref ((B 1) 0)) rfl (by decide) w_1 rfl dX4_state_57 ?_
    refine g_aloadn C dX4_state_60 0 rfl rfl ?_
    refine g_get C fx4 w_0 0 0 (v := .ref ((B 1) 0)) rfl (by decide) w_1 rfl dX4_state_61 ?_
    refine g_get C fx0 w_2 5 2 (v := .ref ((B 1) 3)) rfl (by decide) w_5 rfl dX4_state_64 ?_
    refine g_callWi (w1 := (ow q B o ++ (hw q (B 1) h1 ++ (hw q (B 2) h2 ++ (hw q (B 3) h3 ++ (tw q (B 4) t ++ (sw q (B 5) g))))))) (wr := ([0, 1, 2, 3, 4, 13, 14, 15, 16, 17, 18, 19, 20, 21, 22, 23, 24, 25, 26, 27, 28, 29, 30, 31, 32] : List Nat).filterMap (fun i => (ow q B o ++ (hw q (B 1) h1 ++ (hw q (B 2) h2 ++ (hw q (B 3) h3 ++ (tw q (B 4) t ++ (sw q (B 5) g))))))[i]?)) (isC := [5, 6, 7, 8, 9, 10, 11, 12]) (isR := [0, 1, 2, 3, 4, 13, 14, 15, 16, 17, 18, 19, 20, 21, 22, 23, 24, 25, 26, 27, 28, 29, 30, 31, 32]) (pm := [0, 1, 2, 3, 4, 25, 26, 27, 28, 29, 30, 31, 32, 5, 6, 7, 8, 9, 10, 11, 12, 13, 14, 15, 16, 17, 18, 19, 20, 21, 22, 23, 24]) (w1' := (fun _ => (ow q B o ++ (hw q (B 1) h1 ++ (hw q (B 2) h2 ++ (hw q (B 3) h3 ++ (tw q (B 4) t ++ (sw q (B 5) g)))))))) C (rd_V C (k_X0_sumP l D q tt (B 1) h1 S N (by first | assumption | omega) (by first | assumption | omega)) gX4_state_X0_sum rfl rfl rfl 1 ok_X0_sum rfl 0 rfl rfl (rest := []) rfl rfl (Nat.le_of_ble_eq_true rfl) dX4_state_67 ⟨(Nat.le_of_ble_eq_true rfl), (Nat.le_of_ble_eq_true rfl)⟩ ⟨(Nat.le_of_ble_eq_true rfl), (Nat.le_of_ble_eq_true rfl)⟩) rfl rfl rfl (fun _ => rfl) rfl (fun r_67 _ h_67 => ?_)
    obtain rfl := h_67
    exact g_iret C () hr dX4_state_70 (Nat.le_of_ble_eq_true rfl) (Nat.le_of_ble_eq_true rfl) rfl (by unfold R_state; rw [if_neg s_1_0, if_neg s_1_1, if_pos s_1_2])
  by_cases s_1_3 : x = 3
  · refine g_tin C 71 dX4_state_1 (by rw [s_1_3]; decide) (by rw [s_1_3]; decide) (by rw [s_1_3]; rfl) rfl ?_
    refine g_sipush C 1000 dX4_state_71 (by decide) ?_
    refine g_aloadn C dX4_state_74 0 rfl rfl ?_
    refine g_get C fx4 w_0 0 0 (v := .ref ((B 1) 0)) rfl (by decide) w_1 rfl dX4_state_75 ?_
    refine g_callWi (w1 := (ow q B o ++ (hw q (B 1) h1 ++ (hw q (B 2) h2 ++ (hw q (B 3) h3 ++ (tw q (B 4) t ++ (sw q (B 5) g))))))) (wr := ([0, 1, 2, 3, 4, 13, 14, 15, 16, 17, 18, 19, 20, 21, 22, 23, 24, 25, 26, 27, 28, 29, 30, 31, 32] : List Nat).filterMap (fun i => (ow q B o ++ (hw q (B 1) h1 ++ (hw q (B 2) h2 ++ (hw q (B 3) h3 ++ (tw q (B 4) t ++ (sw q (B 5) g))))))[i]?)) (isC := [5, 6, 7, 8, 9, 10, 11, 12]) (isR := [0, 1, 2, 3, 4, 13, 14, 15, 16, 17, 18, 19, 20, 21, 22, 23, 24, 25, 26, 27, 28, 29, 30, 31, 32]) (pm := [0, 1, 2, 3, 4, 25, 26, 27, 28, 29, 30, 31, 32, 5, 6, 7, 8, 9, 10, 11, 12, 13, 14, 15, 16, 17, 18, 19, 20, 21, 22, 23, 24]) (w1' := (fun _ => (ow q B o ++ (hw q (B 1) h1 ++ (hw q (B 2) h2 ++ (hw q (B 3) h3 ++ (tw q (B 4) t ++ (sw q (B 5) g)))))))) C (rd_V C (k_X0_loudOfAll l D q tt (B 1) h1 S N (by first | assumption | omega) (by first | assumption | omega)) gX4_state_X0_loudOfAll rfl rfl rfl 0 ok_X0_loudOfAll rfl 0 rfl rfl (rest := [.int 1000]) rfl rfl (Nat.le_of_ble_eq_true rfl) dX4_state_78 ⟨(Nat.le_of_ble_eq_true rfl), (Nat.le_of_ble_eq_true rfl)⟩ ⟨(Nat.le_of_ble_eq_true rfl), (Nat.le_of_ble_eq_true rfl)⟩) rfl rfl rfl (fun _ => rfl) rfl (fun r_78 _ h_78 => ?_)
    obtain rfl := h_78
    refine g_iadd C dX4_state_81 ?_
    exact g_iret C () hr dX4_state_82 (Nat.le_of_ble_eq_true rfl) (Nat.le_of_ble_eq_true rfl) rfl (by unfold R_state; rw [if_neg s_1_0, if_neg s_1_1, if_neg s_1_2, if_pos s_1_3])
  by_cases s_1_4 : x = 4
  · refine g_tin C 83 dX4_state_1 (by rw [s_1_4]; decide) (by rw [s_1_4]; decide) (by rw [s_1_4]; rfl) rfl ?_
    refine g_aloadn C dX4_state_83 0 rfl rfl ?_
    refine g_get C fx4 w_0 0 0 (v := .ref ((B 1) 0)) rfl (by decide) w_1 rfl dX4_state_84 ?_
    refine g_callWi (w1 := (ow q B o ++ (hw q (B 1) h1 ++ (hw q (B 2) h2 ++ (hw q (B 3) h3 ++ (tw q (B 4) t ++ (sw q (B 5) g))))))) (wr := ([0, 1, 2, 3, 4, 13, 14, 15, 16, 17, 18, 19, 20, 21, 22, 23, 24, 25, 26, 27, 28, 29, 30, 31, 32] : List Nat).filterMap (fun i => (ow q B o ++ (hw q (B 1) h1 ++ (hw q (B 2) h2 ++ (hw q (B 3) h3 ++ (tw q (B 4) t ++ (sw q (B 5) g))))))[i]?)) (isC := [5, 6, 7, 8, 9, 10, 11, 12]) (isR := [0, 1, 2, 3, 4, 13, 14, 15, 16, 17, 18, 19, 20, 21, 22, 23, 24, 25, 26, 27, 28, 29, 30, 31, 32]) (pm := [0, 1, 2, 3, 4, 25, 26, 27, 28, 29, 30, 31, 32, 5, 6, 7, 8, 9, 10, 11, 12, 13, 14, 15, 16, 17, 18, 19, 20, 21, 22, 23, 24]) (w1' := (fun _ => (ow q B o ++ (hw q (B 1) h1 ++ (hw q (B 2) h2 ++ (hw q (B 3) h3 ++ (tw q (B 4) t ++ (sw q (B 5) g)))))))) C (rd_V C (k_X0_roomsTaken l D q tt (B 1) h1 S N (by first | assumption | omega) (by first | assumption | omega)) gX4_state_X0_roomsTaken rfl rfl rfl 0 ok_X0_roomsTaken rfl 0 rfl rfl (rest := []) rfl rfl (Nat.le_of_ble_eq_true rfl) dX4_state_87 ⟨(Nat.le_of_ble_eq_true rfl), (Nat.le_of_ble_eq_true rfl)⟩ ⟨(Nat.le_of_ble_eq_true rfl), (Nat.le_of_ble_eq_true rfl)⟩) rfl rfl rfl (fun _ => rfl) rfl (fun r_87 _ h_87 => ?_)
    obtain rfl := h_87
    exact g_iret C () hr dX4_state_90 (Nat.le_of_ble_eq_true rfl) (Nat.le_of_ble_eq_true rfl) rfl (by unfold R_state; rw [if_neg s_1_0, if_neg s_1_1, if_neg s_1_2, if_neg s_1_3, if_pos s_1_4])
  by_cases s_1_5 : x = 5
  · refine g_tin C 91 dX4_state_1 (by rw [s_1_5]; decide) (by rw [s_1_5]; decide) (by rw [s_1_5]; rfl) rfl ?_
    refine g_aloadn C dX4_state_91 0 rfl rfl ?_
    refine g_get C fx4 w_0 0 0 (v := .ref ((B 1) 0)) rfl (by decide) w_1 rfl dX4_state_92 ?_
    refine g_aloadn C dX4_state_95 0 rfl rfl ?_
    refine g_get C fx4 w_0 0 0 (v := .ref ((B 1) 0)) rfl (by decide) w_1 rfl dX4_state_96 ?_
    refine g_get C fx0 w_2 5 3 (v := .ref ((B 1) 4)) rfl (by decide) w_6 rfl dX4_state_99 ?_
    refine g_callWi (w1 := (ow q B o ++ (hw q (B 1) h1 ++ (hw q (B 2) h2 ++ (hw q (B 3) h3 ++ (tw q (B 4) t ++ (sw q (B 5) g))))))) (wr := ([0, 1, 2, 3, 4, 13, 14, 15, 16, 17, 18, 19, 20, 21, 22, 23, 24, 25, 26, 27, 28, 29, 30, 31, 32] : List Nat).filterMap (fun i => (ow q B o ++ (hw q (B 1) h1 ++ (hw q (B 2) h2 ++ (hw q (B 3) h3 ++ (tw q (B 4) t ++ (sw q (B 5) g))))))[i]?)) (isC := [5, 6, 7, 8, 9, 10, 11, 12]) (isR := [0, 1, 2, 3, 4, 13, 14, 15, 16, 17, 18, 19, 20, 21, 22, 23, 24, 25, 26, 27, 28, 29, 30, 31, 32]) (pm := [0, 1, 2, 3, 4, 25, 26, 27, 28, 29, 30, 31, 32, 5, 6, 7, 8, 9, 10, 11, 12, 13, 14, 15, 16, 17, 18, 19, 20, 21, 22, 23, 24]) (w1' := (fun _ => (ow q B o ++ (hw q (B 1) h1 ++ (hw q (B 2) h2 ++ (hw q (B 3) h3 ++ (tw q (B 4) t ++ (sw q (B 5) g)))))))) C (rd_V C (k_X0_sumE l D q tt (B 1) h1 S N (by first | assumption | omega) (by first | assumption | omega)) gX4_state_X0_sum rfl rfl rfl 1 ok_X0_sum rfl 0 rfl rfl (rest := []) rfl rfl (Nat.le_of_ble_eq_true rfl) dX4_state_102 ⟨(Nat.le_of_ble_eq_true rfl), (Nat.le_of_ble_eq_true rfl)⟩ ⟨(Nat.le_of_ble_eq_true rfl), (Nat.le_of_ble_eq_true rfl)⟩) rfl rfl rfl (fun _ => rfl) rfl (fun r_102 _ h_102 => ?_)
    obtain rfl := h_102
    exact g_iret C () hr dX4_state_105 (Nat.le_of_ble_eq_true rfl) (Nat.le_of_ble_eq_true rfl) rfl (by unfold R_state; rw [if_neg s_1_0, if_neg s_1_1, if_neg s_1_2, if_neg s_1_3, if_neg s_1_4, if_pos s_1_5])
  have ns_1_0 := lv_neT s_1_0 (a := 0) (by decide)
  have ns_1_1 := lv_neT s_1_1 (a := 1) (by decide)
  have ns_1_2 := lv_neT s_1_2 (a := 2) (by decide)
  have ns_1_3 := lv_neT s_1_3 (a := 3) (by decide)
  have ns_1_4 := lv_neT s_1_4 (a := 4) (by decide)
  have ns_1_5 := lv_neT s_1_5 (a := 5) (by decide)
  refine g_tout C 106 dX4_state_1 (by omega) rfl ?_
  refine g_iconst C (-1) dX4_state_106 (by decide) ?_
  exact g_iret C () hr dX4_state_107 (Nat.le_of_ble_eq_true rfl) (Nat.le_of_ble_eq_true rfl) rfl (by unfold R_state; rw [if_neg s_1_0, if_neg s_1_1, if_neg s_1_2, if_neg s_1_3, if_neg s_1_4, if_neg s_1_5])

