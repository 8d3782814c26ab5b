set_option maxRecDepth 100000 in
set_option maxHeartbeats 4000000 in
theorem k_X4_state (l : Launch) (D : va_G) (q : Nat → ClassId) (tt : Nat → Nat) (B : Nat → Nat → Nat) (o : OC) (h1 : HC) (h2 : HC) (h3 : HC) (t : TC) (g : GC) (S : Nat → Int32) (N : Nat) (x : Int32) (hG : Gd S N) (rS : HR S N h1) : MI l D q tt yX4_state wsX4_state ({ frames := 2, cells := 0, slots := 0, locals := 44 } : Room) [.ref ((B 0) 0), .int x] (ow q B o ++ (hw q (B 1) h1 ++ (hw q (B 2) h2 ++ (hw q (B 3) h3 ++ (tw q (B 4) t ++ (sw q (B 5) g)))))) (fun (r : Int32) (u : Unit) => r = R_state S N x) (fun (_ : Unit) => (ow q B o ++ (hw q (B 1) h1 ++ (hw q (B 2) h2 ++ (hw q (B 3) h3 ++ (tw q (B 4) t ++ (sw q (B 5) g))))))) 0 0 := by
  refine MI.of RX4 [(0, .ref ((B 0) 0)), (1, .int x)] (by decide) rfl rfl (Nat.le_of_ble_eq_true rfl) rfl ?_
  intro p e s m args below meth c A C hr hnm
  have w_0 : ∀ w ∈ u_ws RX4 TX4 11, w ∈ wsX4_state := by decide +kernel
  have w_1 : Cond.fieldLink RX4 10 (TX4 0).1 (TX4 0).2.1 (TX4 0).2.2.1 ∈ wsX4_state := by decide +kernel
  have w_2 : ∀ w ∈ u_ws RX0 TX0 11, w ∈ wsX4_state := by decide +kernel
  have w_3 : Cond.fieldLink RX4 170 (TX0 7).1 (TX0 7).2.1 (TX0 7).2.2.1 ∈ wsX4_state := by decide +kernel
  have w_4 : Cond.fieldLink RX4 152 (TX0 6).1 (TX0 6).2.1 (TX0 6).2.2.1 ∈ wsX4_state := by decide +kernel
  have w_5 : Cond.fieldLink RX4 123 (TX0 2).1 (TX0 2).2.1 (TX0 2).2.2.1 ∈ wsX4_state := by decide +kernel
  have w_6 : Cond.fieldLink RX4 126 (TX0 3).1 (TX0 3).2.1 (TX0 3).2.2.1 ∈ wsX4_state := by decide +kernel
  have h8 := hG.le
  have hS0 := hG.n
  refine g_iloadn C dX4_state_0 1 rfl rfl ?_
  by_cases s_1_0 : x = 0
  · refine g_tin C 40 dX4_state_1 (by rw [s_1_0]; decide) (by rw [s_1_0]; decide) (by rw [s_1_0]; rfl) rfl ?_
    refine g_aloadn C dX4_state_40 0 rfl rfl ?_
    refine g_get C fx4 w_0 0 0 (v := .ref ((B 1) 0)) rfl (by decide) w_1 rfl dX4_state_41 ?_
    refine g_get C fx0 w_2 5 7 (v := .int (hM h1)) rfl (by decide) w_3 rfl dX4_state_44 ?_
    refine g_topci (S 1) (rS.m) ?_
    exact g_iret C () hr dX4_state_47 (Nat.le_of_ble_eq_true rfl) (Nat.le_of_ble_eq_true rfl) rfl (by unfold R_state; rw [if_pos s_1_0])
  by_cases s_1_1 : x = 1
  · refine g_tin C 48 dX4_state_1 (by rw [s_1_1]; decide) (by rw [s_1_1]; decide) (by rw [s_1_1]; rfl) rfl ?_
    refine g_aloadn C dX4_state_48 0 rfl rfl ?_
    refine g_get C fx4 w_0 0 0 (v := .ref ((B 1) 0)) rfl (by decide) w_1 rfl dX4_state_49 ?_
    refine g_get C fx0 w_2 5 6 (v := .int (hC h1)) rfl (by decide) w_4 rfl dX4_state_52 ?_
    refine g_topci (clS S N) (rS.c) ?_
    exact g_iret C () hr dX4_state_55 (Nat.le_of_ble_eq_true rfl) (Nat.le_of_ble_eq_true rfl) rfl (by unfold R_state; rw [if_neg s_1_0, if_pos s_1_1])
  by_cases s_1_2 : x = 2
  · refine g_tin C 56 dX4_state_1 (by rw [s_1_2]; decide) (by rw [s_1_2]; decide) (by rw [s_1_2]; rfl) rfl ?_
    refine g_aloadn C dX4_state_56 0 rfl rfl ?_
    refine g_get C fx4 w_0 0 0 (v := .ref ((B 1) 0)) rfl (by decide) w_1 rfl dX4_state_57 ?_
    refine g_aloadn C dX4_state_60 0 rfl rfl ?_
    refine g_get C fx4 w_0 0 0 (v := .ref ((B 1) 0)) rfl (by decide) w_1 rfl dX4_state_61 ?_
    refine g_get C fx0 w_2 5 2 (v := .ref ((B 1) 3)) rfl (by decide) w_5 rfl dX4_state_64 ?_
    refine g_callWi (w1 := (ow q B o ++ (hw q (B 1) h1 ++ (hw q (B 2) h2 ++ (hw q (B 3) h3 ++ (tw q (B 4) t ++ (sw q (B 5) g))))))) (wr := ([0, 1, 2, 3, 4, 13, 14, 15, 16, 17, 18, 19, 20, 21, 22, 23, 24, 25, 26, 27, 28, 29, 30, 31, 32] : List Nat).filterMap (fun i => (ow q B o ++ (hw q (B 1) h1 ++ (hw q (B 2) h2 ++ (hw q (B 3) h3 ++ (tw q (B 4) t ++ (sw q (B 5) g))))))[i]?)) (isC := [5, 6, 7, 8, 9, 10, 11, 12]) (isR := [0, 1, 2, 3, 4, 13, 14, 15, 16, 17, 18, 19, 20, 21, 22, 23, 24, 25, 26, 27, 28, 29, 30, 31, 32]) (pm := [0, 1, 2, 3, 4, 25, 26, 27, 28, 29, 30, 31, 32, 5, 6, 7, 8, 9, 10, 11, 12, 13, 14, 15, 16, 17, 18, 19, 20, 21, 22, 23, 24]) (w1' := (fun _ => (ow q B o ++ (hw q (B 1) h1 ++ (hw q (B 2) h2 ++ (hw q (B 3) h3 ++ (tw q (B 4) t ++ (sw q (B 5) g)))))))) C (rd_V C (k_X0_sumP l D q tt (B 1) h1 S N (by first | assumption | omega) (by first | assumption | omega)) gX4_state_X0_sum rfl rfl rfl 1 ok_X0_sum rfl 0 rfl rfl (rest := []) rfl rfl (Nat.le_of_ble_eq_true rfl) dX4_state_67 ⟨(Nat.le_of_ble_eq_true rfl), (Nat.le_of_ble_eq_true rfl)⟩ ⟨(Nat.le_of_ble_eq_true rfl), (Nat.le_of_ble_eq_true rfl)⟩) rfl rfl rfl (fun _ => rfl) rfl (fun r_67 _ h_67 => ?_)
    obtain rfl := h_67
    exact g_iret C () hr dX4_state_70 (Nat.le_of_ble_eq_true rfl) (Nat.le_of_ble_eq_true rfl) rfl (by unfold R_state; rw [if_neg s_1_0, if_neg s_1_1, if_pos s_1_2])
  by_cases s_1_3 : x = 3
  · refine g_tin C 71 dX4_state_1 (by rw [s_1_3]; decide) (by rw [s_1_3]; decide) (by rw [s_1_3]; rfl) rfl ?_
    refine g_sipush C 1000 dX4_state_71 (by decide) ?_
    refine g_aloadn C dX4_state_74 0 rfl rfl ?_
    refine g_get C fx4 w_0 0 0 (v := .ref ((B 1) 0)) rfl (by decide) w_1 rfl dX4_state_75 ?_
    refine g_callWi (w1 := (ow q B o ++ (hw q (B 1) h1 ++ (hw q (B 2) h2 ++ (hw q (B 3) h3 ++ (tw q (B 4) t ++ (sw q (B 5) g))))))) (wr := ([0, 1, 2, 3, 4, 13, 14, 15, 16, 17, 18, 19, 20, 21, 22, 23, 24, 25, 26, 27, 28, 29, 30, 31, 32] : List Nat).filterMap (fun i => (ow q B o ++ (hw q (B 1) h1 ++ (hw q (B 2) h2 ++ (hw q (B 3) h3 ++ (tw q (B 4) t ++ (sw q (B 5) g))))))[i]?)) (isC := [5, 6, 7, 8, 9, 10, 11, 12]) (isR := [0, 1, 2, 3, 4, 13, 14, 15, 16, 17, 18, 19, 20, 21, 22, 23, 24, 25, 26, 27, 28, 29, 30, 31, 32]) (pm := [0, 1, 2, 3, 4, 25, 26, 27, 28, 29, 30, 31, 32, 5, 6, 7, 8, 9, 10, 11, 12, 13, 14, 15, 16, 17, 18, 19, 20, 21, 22, 23, 24]) (w1' := (fun _ => (ow q B o ++ (hw q (B 1) h1 ++ (hw q (B 2) h2 ++ (hw q (B 3) h3 ++ (tw q (B 4) t ++ (sw q (B 5) g)))))))) C (rd_V C (k_X0_loudOfAll l D q tt (B 1) h1 S N (by first | assumption | omega) (by first | assumption | omega)) gX4_state_X0_loudOfAll rfl rfl rfl 0 ok_X0_loudOfAll rfl 0 rfl rfl (rest := [.int 1000]) rfl rfl (Nat.le_of_ble_eq_true rfl) dX4_state_78 ⟨(Nat.le_of_ble_eq_true rfl), (Nat.le_of_ble_eq_true rfl)⟩ ⟨(Nat.le_of_ble_eq_true rfl), (Nat.le_of_ble_eq_true rfl)⟩) rfl rfl rfl (fun _ => rfl) rfl (fun r_78 _ h_78 => ?_)
    obtain rfl := h_78
    refine g_iadd C dX4_state_81 ?_
    exact g_iret C () hr dX4_state_82 (Nat.le_of_ble_eq_true rfl) (Nat.le_of_ble_eq_true rfl) rfl (by unfold R_state; rw [if_neg s_1_0, if_neg s_1_1, if_neg s_1_2, if_pos s_1_3])
  by_cases s_1_4 : x = 4
  · refine g_tin C 83 dX4_state_1 (by rw [s_1_4]; decide) (by rw [s_1_4]; decide) (by rw [s_1_4]; rfl) rfl ?_
    refine g_aloadn C dX4_state_83 0 rfl rfl ?_
    refine g_get C fx4 w_0 0 0 (v := .ref ((B 1) 0)) rfl (by decide) w_1 rfl dX4_state_84 ?_
    refine g_callWi (w1 := (ow q B o ++ (hw q (B 1) h1 ++ (hw q (B 2) h2 ++ (hw q (B 3) h3 ++ (tw q (B 4) t ++ (sw q (B 5) g))))))) (wr := ([0, 1, 2, 3, 4, 13, 14, 15, 16, 17, 18, 19, 20, 21, 22, 23, 24, 25, 26, 27, 28, 29, 30, 31, 32] : List Nat).filterMap (fun i => (ow q B o ++ (hw q (B 1) h1 ++ (hw q (B 2) h2 ++ (hw q (B 3) h3 ++ (tw q (B 4) t ++ (sw q (B 5) g))))))[i]?)) (isC := [5, 6, 7, 8, 9, 10, 11, 12]) (isR := [0, 1, 2, 3, 4, 13, 14, 15, 16, 17, 18, 19, 20, 21, 22, 23, 24, 25, 26, 27, 28, 29, 30, 31, 32]) (pm := [0, 1, 2, 3, 4, 25, 26, 27, 28, 29, 30, 31, 32, 5, 6, 7, 8, 9, 10, 11, 12, 13, 14, 15, 16, 17, 18, 19, 20, 21, 22, 23, 24]) (w1' := (fun _ => (ow q B o ++ (hw q (B 1) h1 ++ (hw q (B 2) h2 ++ (hw q (B 3) h3 ++ (tw q (B 4) t ++ (sw q (B 5) g)))))))) C (rd_V C (k_X0_roomsTaken l D q tt (B 1) h1 S N (by first | assumption | omega) (by first | assumption | omega)) gX4_state_X0_roomsTaken rfl rfl rfl 0 ok_X0_roomsTaken rfl 0 rfl rfl (rest := []) rfl rfl (Nat.le_of_ble_eq_true rfl) dX4_state_87 ⟨(Nat.le_of_ble_eq_true rfl), (Nat.le_of_ble_eq_true rfl)⟩ ⟨(Nat.le_of_ble_eq_true rfl), (Nat.le_of_ble_eq_true rfl)⟩) rfl rfl rfl (fun _ => rfl) rfl (fun r_87 _ h_87 => ?_)
    obtain rfl := h_87
    exact g_iret C () hr dX4_state_90 (Nat.le_of_ble_eq_true rfl) (Nat.le_of_ble_eq_true rfl) rfl (by unfold R_state; rw [if_neg s_1_0, if_neg s_1_1, if_neg s_1_2, if_neg s_1_3, if_pos s_1_4])
  by_cases s_1_5 : x = 5
  · refine g_tin C 91 dX4_state_1 (by rw [s_1_5]; decide) (by rw [s_1_5]; decide) (by rw [s_1_5]; rfl) rfl ?_
    refine g_aloadn C dX4_state_91 0 rfl rfl ?_
    refine g_get C fx4 w_0 0 0 (v := .ref ((B 1) 0)) rfl (by decide) w_1 rfl dX4_state_92 ?_
    refine g_aloadn C dX4_state_95 0 rfl rfl ?_
    refine g_get C fx4 w_0 0 0 (v := .ref ((B 1) 0)) rfl (by decide) w_1 rfl dX4_state_96 ?_
    refine g_get C fx0 w_2 5 3 (v := .ref ((B 1) 4)) rfl (by decide) w_6 rfl dX4_state_99 ?_
    refine g_callWi (w1 := (ow q B o ++ (hw q (B 1) h1 ++ (hw q (B 2) h2 ++ (hw q (B 3) h3 ++ (tw q (B 4) t ++ (sw q (B 5) g))))))) (wr := ([0, 1, 2, 3, 4, 13, 14, 15, 16, 17, 18, 19, 20, 21, 22, 23, 24, 25, 26, 27, 28, 29, 30, 31, 32] : List Nat).filterMap (fun i => (ow q B o ++ (hw q (B 1) h1 ++ (hw q (B 2) h2 ++ (hw q (B 3) h3 ++ (tw q (B 4) t ++ (sw q (B 5) g))))))[i]?)) (isC := [5, 6, 7, 8, 9, 10, 11, 12]) (isR := [0, 1, 2, 3, 4, 13, 14, 15, 16, 17, 18, 19, 20, 21, 22, 23, 24, 25, 26, 27, 28, 29, 30, 31, 32]) (pm := [0, 1, 2, 3, 4, 25, 26, 27, 28, 29, 30, 31, 32, 5, 6, 7, 8, 9, 10, 11, 12, 13, 14, 15, 16, 17, 18, 19, 20, 21, 22, 23, 24]) (w1' := (fun _ => (ow q B o ++ (hw q (B 1) h1 ++ (hw q (B 2) h2 ++ (hw q (B 3) h3 ++ (tw q (B 4) t ++ (sw q (B 5) g)))))))) C (rd_V C (k_X0_sumE l D q tt (B 1) h1 S N (by first | assumption | omega) (by first | assumption | omega)) gX4_state_X0_sum rfl rfl rfl 1 ok_X0_sum rfl 0 rfl rfl (rest := []) rfl rfl (Nat.le_of_ble_eq_true rfl) dX4_state_102 ⟨(Nat.le_of_ble_eq_true rfl), (Nat.le_of_ble_eq_true rfl)⟩ ⟨(Nat.le_of_ble_eq_true rfl), (Nat.le_of_ble_eq_true rfl)⟩) rfl rfl rfl (fun _ => rfl) rfl (fun r_102 _ h_102 => ?_)
    obtain rfl := h_102
    exact g_iret C () hr dX4_state_105 (Nat.le_of_ble_eq_true rfl) (Nat.le_of_ble_eq_true rfl) rfl (by unfold R_state; rw [if_neg s_1_0, if_neg s_1_1, if_neg s_1_2, if_neg s_1_3, if_neg s_1_4, if_pos s_1_5])
  have ns_1_0 := lv_neT s_1_0 (a := 0) (by decide)
  have ns_1_1 := lv_neT s_1_1 (a := 1) (by decide)
  have ns_1_2 := lv_neT s_1_2 (a := 2) (by decide)
  have ns_1_3 := lv_neT s_1_3 (a := 3) (by decide)
  have ns_1_4 := lv_neT s_1_4 (a := 4) (by decide)
  have ns_1_5 := lv_neT s_1_5 (a := 5) (by decide)
  refine g_tout C 106 dX4_state_1 (by omega) rfl ?_
  refine g_iconst C (-1) dX4_state_106 (by decide) ?_
  exact g_iret C () hr dX4_state_107 (Nat.le_of_ble_eq_true rfl) (Nat.le_of_ble_eq_true rfl) rfl (by unfold R_state; rw [if_neg s_1_0, if_neg s_1_1, if_neg s_1_2, if_neg s_1_3, if_neg s_1_4, if_neg s_1_5])

set_option maxRecDepth 100000 in
set_option maxHeartbeats 4000000 in
theorem k_X4_tryFromNow (l : Launch) (D : va_G) (q : Nat → ClassId) (tt : Nat → Nat) (B : Nat → Nat → Nat) (o : OC) (h1 : HC) (h2 : HC) (h3 : HC) (t : TC) (g : GC)  : MV l D q tt yX4_tryFromNow wsX4_tryFromNow ({ frames := 2, cells := 0, slots := 0, locals := 81 } : Room) [.ref ((B 0) 0)] (ow q B o ++ (hw q (B 1) h1 ++ (hw q (B 2) h2 ++ (hw q (B 3) h3 ++ (tw q (B 4) t ++ (sw q (B 5) g)))))) (fun (u : HC) => ∀ S N, Gd S N → HR S N h1 → HR S N u) (fun u => (ow q B o ++ (hw q (B 1) h1 ++ (hw q (B 2) u ++ (hw q (B 3) h3 ++ (tw q (B 4) t ++ (sw q (B 5) g))))))) 0 0 := by
  refine MV.of RX4 [(0, .ref ((B 0) 0))] (by decide) rfl rfl (Nat.le_of_ble_eq_true rfl) rfl ?_
  intro p e s m args below meth c A C hr hnm
  have w_0 : ∀ w ∈ u_ws RX4 TX4 11, w ∈ wsX4_tryFromNow := by decide +kernel
  have w_1 : Cond.fieldLink RX4 16 (TX4 1).1 (TX4 1).2.1 (TX4 1).2.2.1 ∈ wsX4_tryFromNow := by decide +kernel
  have w_2 : Cond.fieldLink RX4 10 (TX4 0).1 (TX4 0).2.1 (TX4 0).2.2.1 ∈ wsX4_tryFromNow := by decide +kernel
  refine g_aloadn C dX4_tryFromNow_0 0 rfl rfl ?_
  refine g_get C fx4 w_0 0 1 (v := .ref ((B 2) 0)) rfl (by decide) w_1 rfl dX4_tryFromNow_1 ?_
  refine g_aloadn C dX4_tryFromNow_4 0 rfl rfl ?_
  refine g_get C fx4 w_0 0 0 (v := .ref ((B 1) 0)) rfl (by decide) w_2 rfl dX4_tryFromNow_5 ?_
  refine g_callWv (w1 := (ow q B o ++ (hw q (B 1) h1 ++ (hw q (B 2) h2 ++ (hw q (B 3) h3 ++ (tw q (B 4) t ++ (sw q (B 5) g))))))) (wr := ([0, 1, 2, 3, 4, 21, 22, 23, 24, 25, 26, 27, 28, 29, 30, 31, 32] : List Nat).filterMap (fun i => (ow q B o ++ (hw q (B 1) h1 ++ (hw q (B 2) h2 ++ (hw q (B 3) h3 ++ (tw q (B 4) t ++ (sw q (B 5) g))))))[i]?)) (isC := [13, 14, 15, 16, 17, 18, 19, 20, 5, 6, 7, 8, 9, 10, 11, 12]) (isR := [0, 1, 2, 3, 4, 21, 22, 23, 24, 25, 26, 27, 28, 29, 30, 31, 32]) (pm := [0, 1, 2, 3, 4, 25, 26, 27, 28, 29, 30, 31, 32, 17, 18, 19, 20, 21, 22, 23, 24, 5, 6, 7, 8, 9, 10, 11, 12, 13, 14, 15, 16]) (w1' := (fun u_8 => (ow q B o ++ (hw q (B 1) h1 ++ (hw q (B 2) u_8 ++ (hw q (B 3) h3 ++ (tw q (B 4) t ++ (sw q (B 5) g)))))))) C (rd_V C (k_X0_become l D q tt (B 2) (B 1) h2 h1 ) gX4_tryFromNow_X0_become rfl rfl rfl 1 ok_X0_become rfl 0 rfl rfl (rest := []) rfl rfl (Nat.le_of_ble_eq_true rfl) dX4_tryFromNow_8 ⟨(Nat.le_of_ble_eq_true rfl), (Nat.le_of_ble_eq_true rfl)⟩ ⟨(Nat.le_of_ble_eq_true rfl), (Nat.le_of_ble_eq_true rfl)⟩) rfl rfl rfl (fun _ => rfl) rfl (fun u_8 h_8 => ?_)
  have bc_8 := h_8
  exact g_vret C u_8 hr dX4_tryFromNow_11 (Nat.le_of_ble_eq_true rfl) (Nat.le_of_ble_eq_true rfl) rfl (bc_8)

set_option maxRecDepth 100000 in
set_option maxHeartbeats 4000000 in
theorem k_X4_clapping (l : Launch) (D : va_G) (q : Nat → ClassId) (tt : Nat → Nat) (B : Nat → Nat → Nat) (o : OC) (h1 : HC) (h2 : HC) (h3 : HC) (t : TC) (g : GC) (S : Nat → Int32) (N : Nat) (x : Int32) (hG : Gd S N) (rS : HR S N h1) : MI l D q tt yX4_clapping wsX4_clapping ({ frames := 4, cells := 0, slots := 0, locals := 101 } : Room) [.ref ((B 0) 0), .int x] (ow q B o ++ (hw q (B 1) h1 ++ (hw q (B 2) h2 ++ (hw q (B 3) h3 ++ (tw q (B 4) t ++ (sw q (B 5) g)))))) (fun (r : Int32) (u : HC) => r = R_clapping S N x) (fun u => (ow q B o ++ (hw q (B 1) h1 ++ (hw q (B 2) u ++ (hw q (B 3) h3 ++ (tw q (B 4) t ++ (sw q (B 5) g))))))) 0 0 := by
  refine MI.of RX4 [(0, .ref ((B 0) 0)), (1, .int x)] (by decide) rfl rfl (Nat.le_of_ble_eq_true rfl) rfl ?_
  intro p e s m args below meth c A C hr hnm
  have w_0 : ∀ w ∈ u_ws RX4 TX4 11, w ∈ wsX4_clapping := by decide +kernel
  have w_1 : Cond.fieldLink RX4 16 (TX4 1).1 (TX4 1).2.1 (TX4 1).2.2.1 ∈ wsX4_clapping := by decide +kernel
  have w_2 : ∀ w ∈ u_ws RX0 TX0 11, w ∈ wsX4_clapping := by decide +kernel
  have w_3 : Cond.fieldLink RX4 152 (TX0 6).1 (TX0 6).2.1 (TX0 6).2.2.1 ∈ wsX4_clapping := by decide +kernel
  have h8 := hG.le
  have hS0 := hG.n
  refine g_iloadn C dX4_clapping_0 1 rfl rfl ?_
  refine g_iconst C 0 dX4_clapping_1 (by decide) ?_
  refine g_bipush C 60 dX4_clapping_2 (by decide) ?_
  refine g_call0i C (rd_S C (k_X4_within l D q tt x 0 60 ) gX4_clapping_X4_within rfl rfl rfl 3 ok_X4_within (rest := []) rfl rfl (Nat.le_of_ble_eq_true rfl) dX4_clapping_4 ⟨(Nat.le_of_ble_eq_true rfl), (Nat.le_of_ble_eq_true rfl)⟩ ⟨(Nat.le_of_ble_eq_true rfl), (Nat.le_of_ble_eq_true rfl)⟩) (fun _ => rfl) (fun r_4 _ h_4 => ?_)
  obtain rfl := h_4
  refine g_ifneE C 12 dX4_clapping_7 rfl rfl (fun c_7 => ?_) (fun c_7 => ?_)
  · obtain ⟨j, hj, ej, ec⟩ := ix_le (n := 60) (by omega) c_7
    refine g_aloadn C dX4_clapping_12 0 rfl rfl ?_
    refine g_callAv C (rd_V C (k_X4_tryFromNow l D q tt B o h1 h2 h3 t g ) gX4_clapping_X4_tryFromNow rfl rfl rfl 0 ok_X4_tryFromNow rfl 0 rfl rfl (rest := []) rfl rfl (Nat.le_of_ble_eq_true rfl) dX4_clapping_13 ⟨(Nat.le_of_ble_eq_true rfl), (Nat.le_of_ble_eq_true rfl)⟩ ⟨(Nat.le_of_ble_eq_true rfl), (Nat.le_of_ble_eq_true rfl)⟩) (fun u_13 h_13 => ?_)
    have tr_13 := h_13
    refine g_aloadn C dX4_clapping_16 0 rfl rfl ?_
    refine g_get C fx4 w_0 0 1 (v := .ref ((B 2) 0)) rfl (by decide) w_1 rfl dX4_clapping_17 ?_
    refine g_iloadn C dX4_clapping_20 1 rfl rfl ?_
    refine g_topci (nI j) (ej) ?_
    refine g_callWv (w1 := (ow q B o ++ (hw q (B 1) h1 ++ (hw q (B 2) u_13 ++ (hw q (B 3) h3 ++ (tw q (B 4) t ++ (sw q (B 5) g))))))) (wr := ([0, 1, 2, 3, 4, 5, 6, 7, 8, 9, 10, 11, 12, 21, 22, 23, 24, 25, 26, 27, 28, 29, 30, 31, 32] : List Nat).filterMap (fun i => (ow q B o ++ (hw q (B 1) h1 ++ (hw q (B 2) u_13 ++ (hw q (B 3) h3 ++ (tw q (B 4) t ++ (sw q (B 5) g))))))[i]?)) (isC := [13, 14, 15, 16, 17, 18, 19, 20]) (isR := [0, 1, 2, 3, 4, 5, 6, 7, 8, 9, 10, 11, 12, 21, 22, 23, 24, 25, 26, 27, 28, 29, 30, 31, 32]) (pm := [0, 1, 2, 3, 4, 5, 6, 7, 8, 9, 10, 11, 12, 25, 26, 27, 28, 29, 30, 31, 32, 13, 14, 15, 16, 17, 18, 19, 20, 21, 22, 23, 24]) (w1' := (fun u_21 => (ow q B o ++ (hw q (B 1) h1 ++ (hw q (B 2) u_21 ++ (hw q (B 3) h3 ++ (tw q (B 4) t ++ (sw q (B 5) g)))))))) C (rd_V C (k_X0_pass l D q tt (B 2) u_13 S N j (by first | assumption | omega) (tr_13 S N hG rS) (by first | assumption | omega)) gX4_clapping_X0_pass rfl rfl rfl 1 ok_X0_pass rfl 0 rfl rfl (rest := []) rfl rfl (Nat.le_of_ble_eq_true rfl) dX4_clapping_21 ⟨(Nat.le_of_ble_eq_true rfl), (Nat.le_of_ble_eq_true rfl)⟩ ⟨(Nat.le_of_ble_eq_true rfl), (Nat.le_of_ble_eq_true rfl)⟩) rfl rfl rfl (fun _ => rfl) rfl (fun u_21 h_21 => ?_)
    have rS_21 := h_21
    refine g_aloadn C dX4_clapping_24 0 rfl rfl ?_
    refine g_get C fx4 w_0 0 1 (v := .ref ((B 2) 0)) rfl (by decide) w_1 rfl dX4_clapping_25 ?_
    refine g_get C fx0 w_2 13 6 (v := .int (hC u_21)) rfl (by decide) w_3 rfl dX4_clapping_28 ?_
    refine g_topci (clS (gosS S N j) N) (rS_21.c) ?_
    exact g_iret C u_21 hr dX4_clapping_31 (Nat.le_of_ble_eq_true rfl) (Nat.le_of_ble_eq_true rfl) rfl (by unfold R_clapping; (try simp only [hS0]); (repeat' split) <;> first | (rw [ec]; done) | rfl | (exfalso; simp only [lg_lt0, lg_gt0, w_le, w_lt, Int32.lt_iff_toInt_lt, Int32.le_iff_toInt_le, ← Int32.toInt_inj, tI_0, tI_1, tI_2, tI_3, tI_4, tI_5, tI_6, tI_7, tI_8, tI_9, tI_10, tI_13, tI_19, tI_20, tI_30, tI_32, tI_40, tI_48, tI_57, tI_59, tI_60, tI_97, tI_99, tI_100, tI_122, tI_200, tI_m1, tI_m2, tI_m3, tI_39, not_and, not_or] at * <;> omega))
  · refine g_iconst C (-1) dX4_clapping_10 (by decide) ?_
    exact g_iret C h2 hr dX4_clapping_11 (Nat.le_of_ble_eq_true rfl) (Nat.le_of_ble_eq_true rfl) rfl (by unfold R_clapping; (try simp only [hS0]); (repeat' split) <;> first | (rw [ec]; done) | rfl | (exfalso; simp only [lg_lt0, lg_gt0, w_le, w_lt, Int32.lt_iff_toInt_lt, Int32.le_iff_toInt_le, ← Int32.toInt_inj, tI_0, tI_1, tI_2, tI_3, tI_4, tI_5, tI_6, tI_7, tI_8, tI_9, tI_10, tI_13, tI_19, tI_20, tI_30, tI_32, tI_40, tI_48, tI_57, tI_59, tI_60, tI_97, tI_99, tI_100, tI_122, tI_200, tI_m1, tI_m2, tI_m3, tI_39, not_and, not_or] at * <;> omega))

set_option maxRecDepth 100000 in
set_option maxHeartbeats 4000000 in
theorem k_X4_firstBehind (l : Launch) (D : va_G) (q : Nat → ClassId) (tt : Nat → Nat) (B : Nat → Nat → Nat) (o : OC) (h1 : HC) (h2 : HC) (h3 : HC) (t : TC) (g : GC) (S : Nat → Int32) (N : Nat) (n : Nat) (f : Int32) (y : Int32) (hG : Gd S N) (rS : HR S N h1) (hn : n ≤ 61) : MI l D q tt yX4_firstBehind wsX4_firstBehind ({ frames := 4, cells := 0, slots := 0, locals := 101 } : Room) [.ref ((B 0) 0), .int (nI n), .int f, .int y] (ow q B o ++ (hw q (B 1) h1 ++ (hw q (B 2) h2 ++ (hw q (B 3) h3 ++ (tw q (B 4) t ++ (sw q (B 5) g)))))) (fun (r : Int32) (u : HC) => r = (fwL S N f y (61 - n) n)) (fun u => (ow q B o ++ (hw q (B 1) h1 ++ (hw q (B 2) u ++ (hw q (B 3) h3 ++ (tw q (B 4) t ++ (sw q (B 5) g))))))) 0 0 := by
  refine MI.of RX4 [(0, .ref ((B 0) 0)), (1, .int (nI n)), (2, .int f), (3, .int y)] (by decide) rfl rfl (Nat.le_of_ble_eq_true rfl) rfl ?_
  intro p e s m args below meth c A C hr hnm
  have w_0 : ∀ w ∈ u_ws RX4 TX4 11, w ∈ wsX4_firstBehind := by decide +kernel
  have w_1 : Cond.fieldLink RX4 16 (TX4 1).1 (TX4 1).2.1 (TX4 1).2.2.1 ∈ wsX4_firstBehind := by decide +kernel
  have w_2 : ∀ w ∈ u_ws RX0 TX0 11, w ∈ wsX4_firstBehind := by decide +kernel
  have w_3 : Cond.fieldLink RX4 152 (TX0 6).1 (TX0 6).2.1 (TX0 6).2.2.1 ∈ wsX4_firstBehind := by decide +kernel
  have h8 := hG.le
  have hS0 := hG.n
  refine g_aloadn C dX4_firstBehind_0 0 rfl rfl ?_
  refine g_callAv C (rd_V C (k_X4_tryFromNow l D q tt B o h1 h2 h3 t g ) gX4_firstBehind_X4_tryFromNow rfl rfl rfl 0 ok_X4_tryFromNow rfl 0 rfl rfl (rest := []) rfl rfl (Nat.le_of_ble_eq_true rfl) dX4_firstBehind_1 ⟨(Nat.le_of_ble_eq_true rfl), (Nat.le_of_ble_eq_true rfl)⟩ ⟨(Nat.le_of_ble_eq_true rfl), (Nat.le_of_ble_eq_true rfl)⟩) (fun u_1 h_1 => ?_)
  have tr_1 := h_1
  refine g_aloadn C dX4_firstBehind_4 0 rfl rfl ?_
  refine g_get C fx4 w_0 0 1 (v := .ref ((B 2) 0)) rfl (by decide) w_1 rfl dX4_firstBehind_5 ?_
  refine g_iloadn C dX4_firstBehind_8 1 rfl rfl ?_
  refine g_callWv (w1 := (ow q B o ++ (hw q (B 1) h1 ++ (hw q (B 2) u_1 ++ (hw q (B 3) h3 ++ (tw q (B 4) t ++ (sw q (B 5) g))))))) (wr := ([0, 1, 2, 3, 4, 5, 6, 7, 8, 9, 10, 11, 12, 21, 22, 23, 24, 25, 26, 27, 28, 29, 30, 31, 32] : List Nat).filterMap (fun i => (ow q B o ++ (hw q (B 1) h1 ++ (hw q (B 2) u_1 ++ (hw q (B 3) h3 ++ (tw q (B 4) t ++ (sw q (B 5) g))))))[i]?)) (isC := [13, 14, 15, 16, 17, 18, 19, 20]) (isR := [0, 1, 2, 3, 4, 5, 6, 7, 8, 9, 10, 11, 12, 21, 22, 23, 24, 25, 26, 27, 28, 29, 30, 31, 32]) (pm := [0, 1, 2, 3, 4, 5, 6, 7, 8, 9, 10, 11, 12, 25, 26, 27, 28, 29, 30, 31, 32, 13, 14, 15, 16, 17, 18, 19, 20, 21, 22, 23, 24]) (w1' := (fun u_9 => (ow q B o ++ (hw q (B 1) h1 ++ (hw q (B 2) u_9 ++ (hw q (B 3) h3 ++ (tw q (B 4) t ++ (sw q (B 5) g)))))))) C (rd_V C (k_X0_pass l D q tt (B 2) u_1 S N n (by first | assumption | omega) (tr_1 S N hG rS) (by first | assumption | omega)) gX4_firstBehind_X0_pass rfl rfl rfl 1 ok_X0_pass rfl 0 rfl rfl (rest := []) rfl rfl (Nat.le_of_ble_eq_true rfl) dX4_firstBehind_9 ⟨(Nat.le_of_ble_eq_true rfl), (Nat.le_of_ble_eq_true rfl)⟩ ⟨(Nat.le_of_ble_eq_true rfl), (Nat.le_of_ble_eq_true rfl)⟩) rfl rfl rfl (fun _ => rfl) rfl (fun u_9 h_9 => ?_)
  have rS_9 := h_9
  refine g_iloadn C dX4_firstBehind_12 1 rfl rfl ?_
  refine g_istore C [(4, .int (nI n)), (0, .ref ((B 0) 0)), (1, .int (nI n)), (2, .int f), (3, .int y)] dX4_firstBehind_13 (by decide) rfl ?_
  have J_15 : ∀ (fu : Nat) (i : Nat) (k : HC), 61 - i < fu → (i ≤ 61) → (HR (gosS S N i) N k) → ((fwL S N f y (61 - n) n) = (fwL S N f y (61 - i) i)) → G p l e ({ frames := 4, cells := 0, slots := 0, locals := 101 } : Room) s m args below meth c 5 D A (MQ below (va_Qi (fun (r : Int32) (u : HC) => r = (fwL S N f y (61 - n) n)) (Bw D A (fun u => (ow q B o ++ (hw q (B 1) h1 ++ (hw q (B 2) u ++ (hw q (B 3) h3 ++ (tw q (B 4) t ++ (sw q (B 5) g)))))))) A) args s 0 0 A) 15 [(0, .ref ((B 0) 0)), (1, .int (nI n)), (2, .int f), (3, .int y), (4, .int (nI i))] [] (ow q B o ++ (hw q (B 1) h1 ++ (hw q (B 2) k ++ (hw q (B 3) h3 ++ (tw q (B 4) t ++ (sw q (B 5) g)))))) 0 0 := by
    intro fu
    induction fu with
    | zero =>
      intro i k hfu
      exact absurd hfu (Nat.not_lt_zero _)
    | succ fu ih =>
      intro i k hfu hi hk hf
      refine g_iload C dX4_firstBehind_15 4 rfl ?_
      refine g_bipush C 60 dX4_firstBehind_17 (by decide) ?_
      refine g_icmpN_gt C 52 (i) (60) dX4_firstBehind_19 rfl (by omega) (by omega) (fun c_19 => ?_) (fun c_19 => ?_)
      · refine g_bipush C (-3) dX4_firstBehind_52 (by decide) ?_
        exact g_iret C k hr dX4_firstBehind_54 (Nat.le_of_ble_eq_true rfl) (Nat.le_of_ble_eq_true rfl) rfl (by first | (exfalso; omega) | (rw [hf]; exact (fw_hit (by omega) c_32).symm) | (rw [hf, show i = 61 by omega]; rfl))
      · refine g_aloadn C dX4_firstBehind_22 0 rfl rfl ?_
        refine g_get C fx4 w_0 0 1 (v := .ref ((B 2) 0)) rfl (by decide) w_1 rfl dX4_firstBehind_23 ?_
        refine g_get C fx0 w_2 13 6 (v := .int (hC k)) rfl (by decide) w_3 rfl dX4_firstBehind_26 ?_
        refine g_topci (clS (gosS S N i) N) (hk.c) ?_
        refine g_iloadn C dX4_firstBehind_29 2 rfl rfl ?_
        refine g_iand C dX4_firstBehind_30 ?_
        refine g_iloadn C dX4_firstBehind_31 3 rfl rfl ?_
        refine g_icmp_ne C 38 dX4_firstBehind_32 rfl (fun c_32 => ?_) (fun c_32 => ?_)
        · refine g_aloadn C dX4_firstBehind_38 0 rfl rfl ?_
          refine g_get C fx4 w_0 0 1 (v := .ref ((B 2) 0)) rfl (by decide) w_1 rfl dX4_firstBehind_39 ?_
          refine g_iconst C 1 dX4_firstBehind_42 (by decide) ?_
          refine g_callWv (w1 := (ow q B o ++ (hw q (B 1) h1 ++ (hw q (B 2) k ++ (hw q (B 3) h3 ++ (tw q (B 4) t ++ (sw q (B 5) g))))))) (wr := ([0, 1, 2, 3, 4, 5, 6, 7, 8, 9, 10, 11, 12, 21, 22, 23, 24, 25, 26, 27, 28, 29, 30, 31, 32] : List Nat).filterMap (fun i => (ow q B o ++ (hw q (B 1) h1 ++ (hw q (B 2) k ++ (hw q (B 3) h3 ++ (tw q (B 4) t ++ (sw q (B 5) g))))))[i]?)) (isC := [13, 14, 15, 16, 17, 18, 19, 20]) (isR := [0, 1, 2, 3, 4, 5, 6, 7, 8, 9, 10, 11, 12, 21, 22, 23, 24, 25, 26, 27, 28, 29, 30, 31, 32]) (pm := [0, 1, 2, 3, 4, 5, 6, 7, 8, 9, 10, 11, 12, 25, 26, 27, 28, 29, 30, 31, 32, 13, 14, 15, 16, 17, 18, 19, 20, 21, 22, 23, 24]) (w1' := (fun u_43 => (ow q B o ++ (hw q (B 1) h1 ++ (hw q (B 2) u_43 ++ (hw q (B 3) h3 ++ (tw q (B 4) t ++ (sw q (B 5) g)))))))) C (rd_V C (k_X0_pass l D q tt (B 2) k (gosS S N i) N 1 (hG.gos i) hk (by first | assumption | omega)) gX4_firstBehind_X0_pass rfl rfl rfl 1 ok_X0_pass rfl 0 rfl rfl (rest := []) rfl rfl (Nat.le_of_ble_eq_true rfl) dX4_firstBehind_43 ⟨(Nat.le_of_ble_eq_true rfl), (Nat.le_of_ble_eq_true rfl)⟩ ⟨(Nat.le_of_ble_eq_true rfl), (Nat.le_of_ble_eq_true rfl)⟩) rfl rfl rfl (fun _ => rfl) rfl (fun u_43 h_43 => ?_)
          have rS_43 := h_43
          refine g_iinc C (nI (i + 1)) [(4, .int (nI (i + 1))), (0, .ref ((B 0) 0)), (1, .int (nI n)), (2, .int f), (3, .int y)] dX4_firstBehind_46 4 rfl (nI_add i 1) (by decide) rfl ?_
          refine g_goto C 15 dX4_firstBehind_49 rfl ?_
          refine g_sub [1, 2, 3, 4, 0] (lv' := [(0, .ref ((B 0) 0)), (1, .int (nI n)), (2, .int f), (3, .int y), (4, .int (nI (i + 1)))]) rfl ?_
          exact ih ((i + 1)) (u_43) (by omega) (by first | assumption | omega) rS_43 (hf.trans (fw_miss (by omega) c_32))
        · refine g_iload C dX4_firstBehind_35 4 rfl ?_
          exact g_iret C k hr dX4_firstBehind_37 (Nat.le_of_ble_eq_true rfl) (Nat.le_of_ble_eq_true rfl) rfl (by first | (exfalso; omega) | (rw [hf]; exact (fw_hit (by omega) c_32).symm) | (rw [hf, show i = 61 by omega]; rfl))
  refine g_sub [1, 2, 3, 4, 0] (lv' := [(0, .ref ((B 0) 0)), (1, .int (nI n)), (2, .int f), (3, .int y), (4, .int (nI n))]) rfl ?_
  exact J_15 _ (n) (u_9) (Nat.lt_succ_self _) (by first | assumption | omega) rS_9 rfl

set_option maxRecDepth 100000 in
set_option maxHeartbeats 4000000 in
theorem k_X4_joins (l : Launch) (D : va_G) (q : Nat → ClassId) (tt : Nat → Nat) (B : Nat → Nat → Nat) (o : OC) (h1 : HC) (h2 : HC) (h3 : HC) (t : TC) (g : GC) (S : Nat → Int32) (N : Nat) (x : Int32) (hG : Gd S N) (rS : HR S N h1) : MI l D q tt yX4_joins wsX4_joins ({ frames := 5, cells := 0, slots := 0, locals := 125 } : Room) [.ref ((B 0) 0), .int x] (ow q B o ++ (hw q (B 1) h1 ++ (hw q (B 2) h2 ++ (hw q (B 3) h3 ++ (tw q (B 4) t ++ (sw q (B 5) g)))))) (fun (r : Int32) (u : HC) => r = R_joins S N x) (fun u => (ow q B o ++ (hw q (B 1) h1 ++ (hw q (B 2) u ++ (hw q (B 3) h3 ++ (tw q (B 4) t ++ (sw q (B 5) g))))))) 0 0 := by
  refine MI.of RX4 [(0, .ref ((B 0) 0)), (1, .int x)] (by decide) rfl rfl (Nat.le_of_ble_eq_true rfl) rfl ?_
  intro p e s m args below meth c A C hr hnm
  have w_0 : ∀ w ∈ u_ws RX4 TX4 11, w ∈ wsX4_joins := by decide +kernel
  have w_1 : Cond.fieldLink RX4 10 (TX4 0).1 (TX4 0).2.1 (TX4 0).2.2.1 ∈ wsX4_joins := by decide +kernel
  have h8 := hG.le
  have hS0 := hG.n
  refine g_aloadn C dX4_joins_0 0 rfl rfl ?_
  refine g_get C fx4 w_0 0 0 (v := .ref ((B 1) 0)) rfl (by decide) w_1 rfl dX4_joins_1 ?_
  refine g_iloadn C dX4_joins_4 1 rfl rfl ?_
  refine g_callWi (w1 := (ow q B o ++ (hw q (B 1) h1 ++ (hw q (B 2) h2 ++ (hw q (B 3) h3 ++ (tw q (B 4) t ++ (sw q (B 5) g))))))) (wr := ([0, 1, 2, 3, 4, 13, 14, 15, 16, 17, 18, 19, 20, 21, 22, 23, 24, 25, 26, 27, 28, 29, 30, 31, 32] : List Nat).filterMap (fun i => (ow q B o ++ (hw q (B 1) h1 ++ (hw q (B 2) h2 ++ (hw q (B 3) h3 ++ (tw q (B 4) t ++ (sw q (B 5) g))))))[i]?)) (isC := [5, 6, 7, 8, 9, 10, 11, 12]) (isR := [0, 1, 2, 3, 4, 13, 14, 15, 16, 17, 18, 19, 20, 21, 22, 23, 24, 25, 26, 27, 28, 29, 30, 31, 32]) (pm := [0, 1, 2, 3, 4, 25, 26, 27, 28, 29, 30, 31, 32, 5, 6, 7, 8, 9, 10, 11, 12, 13, 14, 15, 16, 17, 18, 19, 20, 21, 22, 23, 24]) (w1' := (fun _ => (ow q B o ++ (hw q (B 1) h1 ++ (hw q (B 2) h2 ++ (hw q (B 3) h3 ++ (tw q (B 4) t ++ (sw q (B 5) g)))))))) C (rd_V C (k_X0_has l D q tt (B 1) h1 S N x (by first | assumption | omega) (by first | assumption | omega)) gX4_joins_X0_has rfl rfl rfl 1 ok_X0_has rfl 0 rfl rfl (rest := []) rfl rfl (Nat.le_of_ble_eq_true rfl) dX4_joins_5 ⟨(Nat.le_of_ble_eq_true rfl), (Nat.le_of_ble_eq_true rfl)⟩ ⟨(Nat.le_of_ble_eq_true rfl), (Nat.le_of_ble_eq_true rfl)⟩) rfl rfl rfl (fun _ => rfl) rfl (fun r_5 _ h_5 => ?_)
  obtain rfl := h_5
  refine g_ifneE C 13 dX4_joins_8 rfl rfl (fun c_8 => ?_) (fun c_8 => ?_)
  · refine g_aloadn C dX4_joins_13 0 rfl rfl ?_
    refine g_iconst C 0 dX4_joins_14 (by decide) ?_
    refine g_iconst C 1 dX4_joins_15 (by decide) ?_
    refine g_iloadn C dX4_joins_16 1 rfl rfl ?_
    refine g_ishl C dX4_joins_17 ?_
    refine g_iconst C 1 dX4_joins_18 (by decide) ?_
    refine g_iloadn C dX4_joins_19 1 rfl rfl ?_
    refine g_ishl C dX4_joins_20 ?_
    refine g_callAi C (rd_V C (k_X4_firstBehind l D q tt B o h1 h2 h3 t g S N 0 (1 <<< (x &&& 31)) (1 <<< (x &&& 31)) (by first | assumption | omega) (by first | assumption | omega) (by first | assumption | omega)) gX4_joins_X4_firstBehind rfl rfl rfl 3 ok_X4_firstBehind rfl 0 rfl rfl (rest := []) rfl rfl (Nat.le_of_ble_eq_true rfl) dX4_joins_21 ⟨(Nat.le_of_ble_eq_true rfl), (Nat.le_of_ble_eq_true rfl)⟩ ⟨(Nat.le_of_ble_eq_true rfl), (Nat.le_of_ble_eq_true rfl)⟩) (fun r_21 u_21 h_21 => ?_)
    obtain rfl := h_21
    exact g_iret C u_21 hr dX4_joins_24 (Nat.le_of_ble_eq_true rfl) (Nat.le_of_ble_eq_true rfl) rfl (by unfold R_joins; (try simp only [hS0]); (repeat' split) <;> first | exact rfl | rfl | (exfalso; simp only [lg_lt0, lg_gt0, w_le, w_lt, Int32.lt_iff_toInt_lt, Int32.le_iff_toInt_le, ← Int32.toInt_inj, tI_0, tI_1, tI_2, tI_3, tI_4, tI_5, tI_6, tI_7, tI_8, tI_9, tI_10, tI_13, tI_19, tI_20, tI_30, tI_32, tI_40, tI_48, tI_57, tI_59, tI_60, tI_97, tI_99, tI_100, tI_122, tI_200, tI_m1, tI_m2, tI_m3, tI_39, not_and, not_or] at * <;> omega))
  · refine g_iconst C (-1) dX4_joins_11 (by decide) ?_
    exact g_iret C h2 hr dX4_joins_12 (Nat.le_of_ble_eq_true rfl) (Nat.le_of_ble_eq_true rfl) rfl (by unfold R_joins; (try simp only [hS0]); (repeat' split) <;> first | exact rfl | rfl | (exfalso; simp only [lg_lt0, lg_gt0, w_le, w_lt, Int32.lt_iff_toInt_lt, Int32.le_iff_toInt_le, ← Int32.toInt_inj, tI_0, tI_1, tI_2, tI_3, tI_4, tI_5, tI_6, tI_7, tI_8, tI_9, tI_10, tI_13, tI_19, tI_20, tI_30, tI_32, tI_40, tI_48, tI_57, tI_59, tI_60, tI_97, tI_99, tI_100, tI_122, tI_200, tI_m1, tI_m2, tI_m3, tI_39, not_and, not_or] at * <;> omega))

set_option maxRecDepth 100000 in
set_option maxHeartbeats 4000000 in
theorem k_X4_all (l : Launch) (D : va_G) (q : Nat → ClassId) (tt : Nat → Nat) (B : Nat → Nat → Nat) (o : OC) (h1 : HC) (h2 : HC) (h3 : HC) (t : TC) (g : GC) (S : Nat → Int32) (N : Nat) (hG : Gd S N) (rS : HR S N h1) : MI l D q tt yX4_all wsX4_all ({ frames := 5, cells := 0, slots := 0, locals := 125 } : Room) [.ref ((B 0) 0)] (ow q B o ++ (hw q (B 1) h1 ++ (hw q (B 2) h2 ++ (hw q (B 3) h3 ++ (tw q (B 4) t ++ (sw q (B 5) g)))))) (fun (r : Int32) (u : HC) => r = R_all S N) (fun u => (ow q B o ++ (hw q (B 1) h1 ++ (hw q (B 2) u ++ (hw q (B 3) h3 ++ (tw q (B 4) t ++ (sw q (B 5) g))))))) 0 0 := by
  refine MI.of RX4 [(0, .ref ((B 0) 0))] (by decide) rfl rfl (Nat.le_of_ble_eq_true rfl) rfl ?_
  intro p e s m args below meth c A C hr hnm
  have w_0 : ∀ w ∈ u_ws RX4 TX4 11, w ∈ wsX4_all := by decide +kernel
  have w_1 : Cond.fieldLink RX4 10 (TX4 0).1 (TX4 0).2.1 (TX4 0).2.2.1 ∈ wsX4_all := by decide +kernel
  have h8 := hG.le
  have hS0 := hG.n
  refine g_aloadn C dX4_all_0 0 rfl rfl ?_
  refine g_iconst C 0 dX4_all_1 (by decide) ?_
  refine g_aloadn C dX4_all_2 0 rfl rfl ?_
  refine g_get C fx4 w_0 0 0 (v := .ref ((B 1) 0)) rfl (by decide) w_1 rfl dX4_all_3 ?_
  refine g_callWi (w1 := (ow q B o ++ (hw q (B 1) h1 ++ (hw q (B 2) h2 ++ (hw q (B 3) h3 ++ (tw q (B 4) t ++ (sw q (B 5) g))))))) (wr := ([0, 1, 2, 3, 4, 13, 14, 15, 16, 17, 18, 19, 20, 21, 22, 23, 24, 25, 26, 27, 28, 29, 30, 31, 32] : List Nat).filterMap (fun i => (ow q B o ++ (hw q (B 1) h1 ++ (hw q (B 2) h2 ++ (hw q (B 3) h3 ++ (tw q (B 4) t ++ (sw q (B 5) g))))))[i]?)) (isC := [5, 6, 7, 8, 9, 10, 11, 12]) (isR := [0, 1, 2, 3, 4, 13, 14, 15, 16, 17, 18, 19, 20, 21, 22, 23, 24, 25, 26, 27, 28, 29, 30, 31, 32]) (pm := [0, 1, 2, 3, 4, 25, 26, 27, 28, 29, 30, 31, 32, 5, 6, 7, 8, 9, 10, 11, 12, 13, 14, 15, 16, 17, 18, 19, 20, 21, 22, 23, 24]) (w1' := (fun _ => (ow q B o ++ (hw q (B 1) h1 ++ (hw q (B 2) h2 ++ (hw q (B 3) h3 ++ (tw q (B 4) t ++ (sw q (B 5) g)))))))) C (rd_V C (k_X0_everybody l D q tt (B 1) h1 ) gX4_all_X0_everybody rfl rfl rfl 0 ok_X0_everybody rfl 0 rfl rfl (rest := [.int 0, .ref ((B 0) 0)]) rfl rfl (Nat.le_of_ble_eq_true rfl) dX4_all_6 ⟨(Nat.le_of_ble_eq_true rfl), (Nat.le_of_ble_eq_true rfl)⟩ ⟨(Nat.le_of_ble_eq_true rfl), (Nat.le_of_ble_eq_true rfl)⟩) rfl rfl rfl (fun _ => rfl) rfl (fun r_6 _ h_6 => ?_)
  obtain rfl := h_6
  refine g_topci (evS N) (by first | (rw [rS.n hG]; done) | (rw [rS.n hG]; rfl)) ?_
  refine g_aloadn C dX4_all_9 0 rfl rfl ?_
  refine g_get C fx4 w_0 0 0 (v := .ref ((B 1) 0)) rfl (by decide) w_1 rfl dX4_all_10 ?_
  refine g_callWi (w1 := (ow q B o ++ (hw q (B 1) h1 ++ (hw q (B 2) h2 ++ (hw q (B 3) h3 ++ (tw q (B 4) t ++ (sw q (B 5) g))))))) (wr := ([0, 1, 2, 3, 4, 13, 14, 15, 16, 17, 18, 19, 20, 21, 22, 23, 24, 25, 26, 27, 28, 29, 30, 31, 32] : List Nat).filterMap (fun i => (ow q B o ++ (hw q (B 1) h1 ++ (hw q (B 2) h2 ++ (hw q (B 3) h3 ++ (tw q (B 4) t ++ (sw q (B 5) g))))))[i]?)) (isC := [5, 6, 7, 8, 9, 10, 11, 12]) (isR := [0, 1, 2, 3, 4, 13, 14, 15, 16, 17, 18, 19, 20, 21, 22, 23, 24, 25, 26, 27, 28, 29, 30, 31, 32]) (pm := [0, 1, 2, 3, 4, 25, 26, 27, 28, 29, 30, 31, 32, 5, 6, 7, 8, 9, 10, 11, 12, 13, 14, 15, 16, 17, 18, 19, 20, 21, 22, 23, 24]) (w1' := (fun _ => (ow q B o ++ (hw q (B 1) h1 ++ (hw q (B 2) h2 ++ (hw q (B 3) h3 ++ (tw q (B 4) t ++ (sw q (B 5) g)))))))) C (rd_V C (k_X0_everybody l D q tt (B 1) h1 ) gX4_all_X0_everybody rfl rfl rfl 0 ok_X0_everybody rfl 0 rfl rfl (rest := [.int (evS N), .int 0, .ref ((B 0) 0)]) rfl rfl (Nat.le_of_ble_eq_true rfl) dX4_all_13 ⟨(Nat.le_of_ble_eq_true rfl), (Nat.le_of_ble_eq_true rfl)⟩ ⟨(Nat.le_of_ble_eq_true rfl), (Nat.le_of_ble_eq_true rfl)⟩) rfl rfl rfl (fun _ => rfl) rfl (fun r_13 _ h_13 => ?_)
  obtain rfl := h_13
  refine g_topci (evS N) (by first | (rw [rS.n hG]; done) | (rw [rS.n hG]; rfl)) ?_
  refine g_callAi C (rd_V C (k_X4_firstBehind l D q tt B o h1 h2 h3 t g S N 0 (evS N) (evS N) (by first | assumption | omega) (by first | assumption | omega) (by first | assumption | omega)) gX4_all_X4_firstBehind rfl rfl rfl 3 ok_X4_firstBehind rfl 0 rfl rfl (rest := []) rfl rfl (Nat.le_of_ble_eq_true rfl) dX4_all_16 ⟨(Nat.le_of_ble_eq_true rfl), (Nat.le_of_ble_eq_true rfl)⟩ ⟨(Nat.le_of_ble_eq_true rfl), (Nat.le_of_ble_eq_true rfl)⟩) (fun r_16 u_16 h_16 => ?_)
  obtain rfl := h_16
  exact g_iret C u_16 hr dX4_all_19 (Nat.le_of_ble_eq_true rfl) (Nat.le_of_ble_eq_true rfl) rfl (rfl)

set_option maxRecDepth 100000 in
set_option maxHeartbeats 4000000 in
theorem k_X4_hush (l : Launch) (D : va_G) (q : Nat → ClassId) (tt : Nat → Nat) (B : Nat → Nat → Nat) (o : OC) (h1 : HC) (h2 : HC) (h3 : HC) (t : TC) (g : GC) (S : Nat → Int32) (N : Nat) (hG : Gd S N) (rS : HR S N h1) : MI l D q tt yX4_hush wsX4_hush ({ frames := 5, cells := 0, slots := 0, locals := 125 } : Room) [.ref ((B 0) 0)] (ow q B o ++ (hw q (B 1) h1 ++ (hw q (B 2) h2 ++ (hw q (B 3) h3 ++ (tw q (B 4) t ++ (sw q (B 5) g)))))) (fun (r : Int32) (u : HC) => r = R_hush S N) (fun u => (ow q B o ++ (hw q (B 1) h1 ++ (hw q (B 2) u ++ (hw q (B 3) h3 ++ (tw q (B 4) t ++ (sw q (B 5) g))))))) 0 0 := by
  refine MI.of RX4 [(0, .ref ((B 0) 0))] (by decide) rfl rfl (Nat.le_of_ble_eq_true rfl) rfl ?_
  intro p e s m args below meth c A C hr hnm
  have w_0 : ∀ w ∈ u_ws RX4 TX4 11, w ∈ wsX4_hush := by decide +kernel
  have w_1 : Cond.fieldLink RX4 10 (TX4 0).1 (TX4 0).2.1 (TX4 0).2.2.1 ∈ wsX4_hush := by decide +kernel
  have h8 := hG.le
  have hS0 := hG.n
  refine g_aloadn C dX4_hush_0 0 rfl rfl ?_
  refine g_iconst C 0 dX4_hush_1 (by decide) ?_
  refine g_aloadn C dX4_hush_2 0 rfl rfl ?_
  refine g_get C fx4 w_0 0 0 (v := .ref ((B 1) 0)) rfl (by decide) w_1 rfl dX4_hush_3 ?_
  refine g_callWi (w1 := (ow q B o ++ (hw q (B 1) h1 ++ (hw q (B 2) h2 ++ (hw q (B 3) h3 ++ (tw q (B 4) t ++ (sw q (B 5) g))))))) (wr := ([0, 1, 2, 3, 4, 13, 14, 15, 16, 17, 18, 19, 20, 21, 22, 23, 24, 25, 26, 27, 28, 29, 30, 31, 32] : List Nat).filterMap (fun i => (ow q B o ++ (hw q (B 1) h1 ++ (hw q (B 2) h2 ++ (hw q (B 3) h3 ++ (tw q (B 4) t ++ (sw q (B 5) g))))))[i]?)) (isC := [5, 6, 7, 8, 9, 10, 11, 12]) (isR := [0, 1, 2, 3, 4, 13, 14, 15, 16, 17, 18, 19, 20, 21, 22, 23, 24, 25, 26, 27, 28, 29, 30, 31, 32]) (pm := [0, 1, 2, 3, 4, 25, 26, 27, 28, 29, 30, 31, 32, 5, 6, 7, 8, 9, 10, 11, 12, 13, 14, 15, 16, 17, 18, 19, 20, 21, 22, 23, 24]) (w1' := (fun _ => (ow q B o ++ (hw q (B 1) h1 ++ (hw q (B 2) h2 ++ (hw q (B 3) h3 ++ (tw q (B 4) t ++ (sw q (B 5) g)))))))) C (rd_V C (k_X0_everybody l D q tt (B 1) h1 ) gX4_hush_X0_everybody rfl rfl rfl 0 ok_X0_everybody rfl 0 rfl rfl (rest := [.int 0, .ref ((B 0) 0)]) rfl rfl (Nat.le_of_ble_eq_true rfl) dX4_hush_6 ⟨(Nat.le_of_ble_eq_true rfl), (Nat.le_of_ble_eq_true rfl)⟩ ⟨(Nat.le_of_ble_eq_true rfl), (Nat.le_of_ble_eq_true rfl)⟩) rfl rfl rfl (fun _ => rfl) rfl (fun r_6 _ h_6 => ?_)
  obtain rfl := h_6
  refine g_topci (evS N) (by first | (rw [rS.n hG]; done) | (rw [rS.n hG]; rfl)) ?_
  refine g_iconst C 0 dX4_hush_9 (by decide) ?_
  refine g_callAi C (rd_V C (k_X4_firstBehind l D q tt B o h1 h2 h3 t g S N 0 (evS N) 0 (by first | assumption | omega) (by first | assumption | omega) (by first | assumption | omega)) gX4_hush_X4_firstBehind rfl rfl rfl 3 ok_X4_firstBehind rfl 0 rfl rfl (rest := []) rfl rfl (Nat.le_of_ble_eq_true rfl) dX4_hush_10 ⟨(Nat.le_of_ble_eq_true rfl), (Nat.le_of_ble_eq_true rfl)⟩ ⟨(Nat.le_of_ble_eq_true rfl), (Nat.le_of_ble_eq_true rfl)⟩) (fun r_10 u_10 h_10 => ?_)
  obtain rfl := h_10
  exact g_iret C u_10 hr dX4_hush_13 (Nat.le_of_ble_eq_true rfl) (Nat.le_of_ble_eq_true rfl) rfl (rfl)

set_option maxRecDepth 100000 in
set_option maxHeartbeats 4000000 in
theorem k_X4_round (l : Launch) (D : va_G) (q : Nat → ClassId) (tt : Nat → Nat) (B : Nat → Nat → Nat) (o : OC) (h1 : HC) (h2 : HC) (h3 : HC) (t : TC) (g : GC) (S : Nat → Int32) (N : Nat) (hG : Gd S N) (rS : HR S N h1) : MI l D q tt yX4_round wsX4_round ({ frames := 5, cells := 0, slots := 0, locals := 125 } : Room) [.ref ((B 0) 0)] (ow q B o ++ (hw q (B 1) h1 ++ (hw q (B 2) h2 ++ (hw q (B 3) h3 ++ (tw q (B 4) t ++ (sw q (B 5) g)))))) (fun (r : Int32) (u : HC) => r = R_round S N) (fun u => (ow q B o ++ (hw q (B 1) h1 ++ (hw q (B 2) u ++ (hw q (B 3) h3 ++ (tw q (B 4) t ++ (sw q (B 5) g))))))) 0 0 := by
  refine MI.of RX4 [(0, .ref ((B 0) 0))] (by decide) rfl rfl (Nat.le_of_ble_eq_true rfl) rfl ?_
  intro p e s m args below meth c A C hr hnm
  have w_0 : ∀ w ∈ u_ws RX4 TX4 11, w ∈ wsX4_round := by decide +kernel
  have w_1 : Cond.fieldLink RX4 10 (TX4 0).1 (TX4 0).2.1 (TX4 0).2.2.1 ∈ wsX4_round := by decide +kernel
  have w_2 : ∀ w ∈ u_ws RX0 TX0 11, w ∈ wsX4_round := by decide +kernel
  have w_3 : Cond.fieldLink RX4 152 (TX0 6).1 (TX0 6).2.1 (TX0 6).2.2.1 ∈ wsX4_round := by decide +kernel
  have h8 := hG.le
  have hS0 := hG.n
  refine g_aloadn C dX4_round_0 0 rfl rfl ?_
  refine g_iconst C 1 dX4_round_1 (by decide) ?_
  refine g_aloadn C dX4_round_2 0 rfl rfl ?_
  refine g_get C fx4 w_0 0 0 (v := .ref ((B 1) 0)) rfl (by decide) w_1 rfl dX4_round_3 ?_
  refine g_callWi (w1 := (ow q B o ++ (hw q (B 1) h1 ++ (hw q (B 2) h2 ++ (hw q (B 3) h3 ++ (tw q (B 4) t ++ (sw q (B 5) g))))))) (wr := ([0, 1, 2, 3, 4, 13, 14, 15, 16, 17, 18, 19, 20, 21, 22, 23, 24, 25, 26, 27, 28, 29, 30, 31, 32] : List Nat).filterMap (fun i => (ow q B o ++ (hw q (B 1) h1 ++ (hw q (B 2) h2 ++ (hw q (B 3) h3 ++ (tw q (B 4) t ++ (sw q (B 5) g))))))[i]?)) (isC := [5, 6, 7, 8, 9, 10, 11, 12]) (isR := [0, 1, 2, 3, 4, 13, 14, 15, 16, 17, 18, 19, 20, 21, 22, 23, 24, 25, 26, 27, 28, 29, 30, 31, 32]) (pm := [0, 1, 2, 3, 4, 25, 26, 27, 28, 29, 30, 31, 32, 5, 6, 7, 8, 9, 10, 11, 12, 13, 14, 15, 16, 17, 18, 19, 20, 21, 22, 23, 24]) (w1' := (fun _ => (ow q B o ++ (hw q (B 1) h1 ++ (hw q (B 2) h2 ++ (hw q (B 3) h3 ++ (tw q (B 4) t ++ (sw q (B 5) g)))))))) C (rd_V C (k_X0_everybody l D q tt (B 1) h1 ) gX4_round_X0_everybody rfl rfl rfl 0 ok_X0_everybody rfl 0 rfl rfl (rest := [.int 1, .ref ((B 0) 0)]) rfl rfl (Nat.le_of_ble_eq_true rfl) dX4_round_6 ⟨(Nat.le_of_ble_eq_true rfl), (Nat.le_of_ble_eq_true rfl)⟩ ⟨(Nat.le_of_ble_eq_true rfl), (Nat.le_of_ble_eq_true rfl)⟩) rfl rfl rfl (fun _ => rfl) rfl (fun r_6 _ h_6 => ?_)
  obtain rfl := h_6
  refine g_topci (evS N) (by first | (rw [rS.n hG]; done) | (rw [rS.n hG]; rfl)) ?_
  refine g_aloadn C dX4_round_9 0 rfl rfl ?_
  refine g_get C fx4 w_0 0 0 (v := .ref ((B 1) 0)) rfl (by decide) w_1 rfl dX4_round_10 ?_
  refine g_get C fx0 w_2 5 6 (v := .int (hC h1)) rfl (by decide) w_3 rfl dX4_round_13 ?_
  refine g_topci (clS S N) (rS.c) ?_
  refine g_callAi C (rd_V C (k_X4_firstBehind l D q tt B o h1 h2 h3 t g S N 1 (evS N) (clS S N) (by first | assumption | omega) (by first | assumption | omega) (by first | assumption | omega)) gX4_round_X4_firstBehind rfl rfl rfl 3 ok_X4_firstBehind rfl 0 rfl rfl (rest := []) rfl rfl (Nat.le_of_ble_eq_true rfl) dX4_round_16 ⟨(Nat.le_of_ble_eq_true rfl), (Nat.le_of_ble_eq_true rfl)⟩ ⟨(Nat.le_of_ble_eq_true rfl), (Nat.le_of_ble_eq_true rfl)⟩) (fun r_16 u_16 h_16 => ?_)
  obtain rfl := h_16
  exact g_iret C u_16 hr dX4_round_19 (Nat.le_of_ble_eq_true rfl) (Nat.le_of_ble_eq_true rfl) rfl (rfl)

set_option maxRecDepth 100000 in
set_option maxHeartbeats 4000000 in
theorem k_X4_stir (l : Launch) (D : va_G) (q : Nat → ClassId) (tt : Nat → Nat) (B : Nat → Nat → Nat) (o : OC) (h1 : HC) (h2 : HC) (h3 : HC) (t : TC) (g : GC) (S : Nat → Int32) (N : Nat) (x : Int32) (hG : Gd S N) (rS : HR S N h1) : MI l D q tt yX4_stir wsX4_stir ({ frames := 4, cells := 0, slots := 0, locals := 101 } : Room) [.ref ((B 0) 0), .int x] (ow q B o ++ (hw q (B 1) h1 ++ (hw q (B 2) h2 ++ (hw q (B 3) h3 ++ (tw q (B 4) t ++ (sw q (B 5) g)))))) (fun (r : Int32) (u : HC) => r = R_stir S N x) (fun u => (ow q B o ++ (hw q (B 1) h1 ++ (hw q (B 2) u ++ (hw q (B 3) h3 ++ (tw q (B 4) t ++ (sw q (B 5) g))))))) 0 0 := by
  refine MI.of RX4 [(0, .ref ((B 0) 0)), (1, .int x)] (by decide) rfl rfl (Nat.le_of_ble_eq_true rfl) rfl ?_
  intro p e s m args below meth c A C hr hnm
  have w_0 : ∀ w ∈ u_ws RX4 TX4 11, w ∈ wsX4_stir := by decide +kernel
  have w_1 : Cond.fieldLink RX4 16 (TX4 1).1 (TX4 1).2.1 (TX4 1).2.2.1 ∈ wsX4_stir := by decide +kernel
  have w_2 : ∀ w ∈ u_ws RX0 TX0 11, w ∈ wsX4_stir := by decide +kernel
  have w_3 : Cond.fieldLink RX4 152 (TX0 6).1 (TX0 6).2.1 (TX0 6).2.2.1 ∈ wsX4_stir := by decide +kernel
  have w_4 : Cond.fieldLink RX4 10 (TX4 0).1 (TX4 0).2.1 (TX4 0).2.2.1 ∈ wsX4_stir := by decide +kernel
  have w_5 : Cond.fieldLink RX4 74 (TX0 8).1 (TX0 8).2.1 (TX0 8).2.2.1 ∈ wsX4_stir := by decide +kernel
  have h8 := hG.le
  have hS0 := hG.n
  refine g_iloadn C dX4_stir_0 1 rfl rfl ?_
  refine g_iconst C 1 dX4_stir_1 (by decide) ?_
  refine g_bipush C 30 dX4_stir_2 (by decide) ?_
  refine g_call0i C (rd_S C (k_X4_within l D q tt x 1 30 ) gX4_stir_X4_within rfl rfl rfl 3 ok_X4_within (rest := []) rfl rfl (Nat.le_of_ble_eq_true rfl) dX4_stir_4 ⟨(Nat.le_of_ble_eq_true rfl), (Nat.le_of_ble_eq_true rfl)⟩ ⟨(Nat.le_of_ble_eq_true rfl), (Nat.le_of_ble_eq_true rfl)⟩) (fun _ => rfl) (fun r_4 _ h_4 => ?_)
  obtain rfl := h_4
  refine g_ifneE C 12 dX4_stir_7 rfl rfl (fun c_7 => ?_) (fun c_7 => ?_)
  · obtain ⟨j, hj, ej, ec⟩ := ix_le (n := 30) (by omega) ⟨Int32.le_trans (by decide) c_7.1, c_7.2⟩
    refine g_aloadn C dX4_stir_12 0 rfl rfl ?_
    refine g_callAv C (rd_V C (k_X4_tryFromNow l D q tt B o h1 h2 h3 t g ) gX4_stir_X4_tryFromNow rfl rfl rfl 0 ok_X4_tryFromNow rfl 0 rfl rfl (rest := []) rfl rfl (Nat.le_of_ble_eq_true rfl) dX4_stir_13 ⟨(Nat.le_of_ble_eq_true rfl), (Nat.le_of_ble_eq_true rfl)⟩ ⟨(Nat.le_of_ble_eq_true rfl), (Nat.le_of_ble_eq_true rfl)⟩) (fun u_13 h_13 => ?_)
    have tr_13 := h_13
    refine g_aloadn C dX4_stir_16 0 rfl rfl ?_
    refine g_get C fx4 w_0 0 1 (v := .ref ((B 2) 0)) rfl (by decide) w_1 rfl dX4_stir_17 ?_
    refine g_iconst C 1 dX4_stir_20 (by decide) ?_
    refine g_callWv (w1 := (ow q B o ++ (hw q (B 1) h1 ++ (hw q (B 2) u_13 ++ (hw q (B 3) h3 ++ (tw q (B 4) t ++ (sw q (B 5) g))))))) (wr := ([0, 1, 2, 3, 4, 5, 6, 7, 8, 9, 10, 11, 12, 21, 22, 23, 24, 25, 26, 27, 28, 29, 30, 31, 32] : List Nat).filterMap (fun i => (ow q B o ++ (hw q (B 1) h1 ++ (hw q (B 2) u_13 ++ (hw q (B 3) h3 ++ (tw q (B 4) t ++ (sw q (B 5) g))))))[i]?)) (isC := [13, 14, 15, 16, 17, 18, 19, 20]) (isR := [0, 1, 2, 3, 4, 5, 6, 7, 8, 9, 10, 11, 12, 21, 22, 23, 24, 25, 26, 27, 28, 29, 30, 31, 32]) (pm := [0, 1, 2, 3, 4, 5, 6, 7, 8, 9, 10, 11, 12, 25, 26, 27, 28, 29, 30, 31, 32, 13, 14, 15, 16, 17, 18, 19, 20, 21, 22, 23, 24]) (w1' := (fun u_21 => (ow q B o ++ (hw q (B 1) h1 ++ (hw q (B 2) u_21 ++ (hw q (B 3) h3 ++ (tw q (B 4) t ++ (sw q (B 5) g)))))))) C (rd_V C (k_X0_pass l D q tt (B 2) u_13 S N 1 (by first | assumption | omega) (tr_13 S N hG rS) (by first | assumption | omega)) gX4_stir_X0_pass rfl rfl rfl 1 ok_X0_pass rfl 0 rfl rfl (rest := []) rfl rfl (Nat.le_of_ble_eq_true rfl) dX4_stir_21 ⟨(Nat.le_of_ble_eq_true rfl), (Nat.le_of_ble_eq_true rfl)⟩ ⟨(Nat.le_of_ble_eq_true rfl), (Nat.le_of_ble_eq_true rfl)⟩) rfl rfl rfl (fun _ => rfl) rfl (fun u_21 h_21 => ?_)
    have rS_21 := h_21
    refine g_aloadn C dX4_stir_24 0 rfl rfl ?_
    refine g_get C fx4 w_0 0 1 (v := .ref ((B 2) 0)) rfl (by decide) w_1 rfl dX4_stir_25 ?_
    refine g_get C fx0 w_2 13 6 (v := .int (hC u_21)) rfl (by decide) w_3 rfl dX4_stir_28 ?_
    refine g_topci (nI (clN (goS S N) N)) (rS_21.c) ?_
    refine g_call0i C (rd_S C (k_J6_bitCount_0f7a4 l D q tt (clN (goS S N) N) (clN_256 h8)) gX4_stir_J6_bitCount_0f7a4 rfl rfl rfl 1 ok_J6_bitCount_0f7a4 (rest := []) rfl rfl (Nat.le_of_ble_eq_true rfl) dX4_stir_31 ⟨(Nat.le_of_ble_eq_true rfl), (Nat.le_of_ble_eq_true rfl)⟩ ⟨(Nat.le_of_ble_eq_true rfl), (Nat.le_of_ble_eq_true rfl)⟩) (fun _ => rfl) (fun r_31 _ h_31 => ?_)
    obtain rfl := h_31
    refine g_istoren C [(2, .int (nI (pop (clN (goS S N) N)))), (0, .ref ((B 0) 0)), (1, .int x)] dX4_stir_34 rfl (by decide) rfl ?_
    refine g_aloadn C dX4_stir_35 1 rfl rfl ?_
    refine g_get C fx4 w_0 0 0 (v := .ref ((B 1) 0)) rfl (by decide) w_4 rfl dX4_stir_36 ?_
    refine g_get C fx0 w_2 5 8 (v := .int (hZ h1)) rfl (by decide) w_5 rfl dX4_stir_39 ?_
    refine g_topci (S 2) (rS.z) ?_
    refine g_istoren C [(3, .int (S 2)), (2, .int (nI (pop (clN (goS S N) N)))), (0, .ref ((B 0) 0)), (1, .int x)] dX4_stir_42 rfl (by decide) rfl ?_
    refine g_iconst C 0 dX4_stir_43 (by decide) ?_
    refine g_istore C [(4, .int 0), (3, .int (S 2)), (2, .int (nI (pop (clN (goS S N) N)))), (0, .ref ((B 0) 0)), (1, .int x)] dX4_stir_44 (by decide) rfl ?_
    refine g_iconst C 0 dX4_stir_46 (by decide) ?_
    refine g_istore C [(5, .int 0), (4, .int 0), (3, .int (S 2)), (2, .int (nI (pop (clN (goS S N) N)))), (0, .ref ((B 0) 0)), (1, .int x)] dX4_stir_47 (by decide) rfl ?_
    have J_49 : ∀ (fu : Nat) (i : Nat) (k : HC), j - i < fu → (i ≤ j) → G p l e ({ frames := 4, cells := 0, slots := 0, locals := 101 } : Room) s m args below meth c 6 D A (MQ below (va_Qi (fun (r : Int32) (u : HC) => r = R_stir S N x) (Bw D A (fun u => (ow q B o ++ (hw q (B 1) h1 ++ (hw q (B 2) u ++ (hw q (B 3) h3 ++ (tw q (B 4) t ++ (sw q (B 5) g)))))))) A) args s 0 0 A) 49 [(0, .ref ((B 0) 0)), (1, .int x), (2, .int (nI (pop (clN (goS S N) N)))), (3, .int ((stL S N (nI (pop (clN (goS S N) N))) i).1)), (4, .int ((stL S N (nI (pop (clN (goS S N) N))) i).2)), (5, .int (nI i))] [] (ow q B o ++ (hw q (B 1) h1 ++ (hw q (B 2) k ++ (hw q (B 3) h3 ++ (tw q (B 4) t ++ (sw q (B 5) g)))))) 0 0 := by
      intro fu
      induction fu with
      | zero =>
        intro i k hfu
        exact absurd hfu (Nat.not_lt_zero _)
      | succ fu ih =>
        intro i k hfu hi
        refine g_iload C dX4_stir_49 5 rfl ?_
        refine g_iloadn C dX4_stir_51 1 rfl rfl ?_
        refine g_topci (nI j) (ej) ?_
        refine g_icmpN_ge C 105 (i) (j) dX4_stir_52 rfl (by omega) (by omega) (fun c_52 => ?_) (fun c_52 => ?_)
        · refine g_iload C dX4_stir_105 4 rfl ?_
          exact g_iret C k hr dX4_stir_107 (Nat.le_of_ble_eq_true rfl) (Nat.le_of_ble_eq_true rfl) rfl (by unfold R_stir; (try simp only [hS0]); (repeat' split) <;> first | rfl | (rw [ec, show j = i by omega]; done) | (exfalso; simp only [lg_lt0, lg_gt0, w_le, w_lt, Int32.lt_iff_toInt_lt, Int32.le_iff_toInt_le, ← Int32.toInt_inj, tI_0, tI_1, tI_2, tI_3, tI_4, tI_5, tI_6, tI_7, tI_8, tI_9, tI_10, tI_13, tI_19, tI_20, tI_30, tI_32, tI_40, tI_48, tI_57, tI_59, tI_60, tI_97, tI_99, tI_100, tI_122, tI_200, tI_m1, tI_m2, tI_m3, tI_39, not_and, not_or] at * <;> omega))
        · refine g_aloadn C dX4_stir_55 0 rfl rfl ?_
          refine g_callAv C (rd_V C (k_X4_tryFromNow l D q tt B o h1 k h3 t g ) gX4_stir_X4_tryFromNow rfl rfl rfl 0 ok_X4_tryFromNow rfl 0 rfl rfl (rest := []) rfl rfl (Nat.le_of_ble_eq_true rfl) dX4_stir_56 ⟨(Nat.le_of_ble_eq_true rfl), (Nat.le_of_ble_eq_true rfl)⟩ ⟨(Nat.le_of_ble_eq_true rfl), (Nat.le_of_ble_eq_true rfl)⟩) (fun u_56 h_56 => ?_)
          have tr_56 := h_56
          refine g_aloadn C dX4_stir_59 0 rfl rfl ?_
          refine g_get C fx4 w_0 0 1 (v := .ref ((B 2) 0)) rfl (by decide) w_1 rfl dX4_stir_60 ?_
          refine g_iloadn C dX4_stir_63 3 rfl rfl ?_
          refine g_put C fx0 w_2 13 8 rfl (by decide) w_5 rfl rfl rfl (Nat.le_of_ble_eq_true rfl) dX4_stir_64 (ow q B o ++ (hw q (B 1) h1 ++ (hw q (B 2) ((hL u_56), (hK u_56), (hP u_56), (hE u_56), (hR u_56), (hN u_56), (hC u_56), (hM u_56), ((stL S N (nI (pop (clN (goS S N) N))) i).1), (hJ u_56), (hH u_56)) ++ (hw q (B 3) h3 ++ (tw q (B 4) t ++ (sw q (B 5) g)))))) rfl ?_
          refine g_aloadn C dX4_stir_67 0 rfl rfl ?_
          refine g_get C fx4 w_0 0 1 (v := .ref ((B 2) 0)) rfl (by decide) w_1 rfl dX4_stir_68 ?_
          refine g_callWv (w1 := (ow q B o ++ (hw q (B 1) h1 ++ (hw q (B 2) ((hL u_56), (hK u_56), (hP u_56), (hE u_56), (hR u_56), (hN u_56), (hC u_56), (hM u_56), ((stL S N (nI (pop (clN (goS S N) N))) i).1), (hJ u_56), (hH u_56)) ++ (hw q (B 3) h3 ++ (tw q (B 4) t ++ (sw q (B 5) g))))))) (wr := ([0, 1, 2, 3, 4, 5, 6, 7, 8, 9, 10, 11, 12, 21, 22, 23, 24, 25, 26, 27, 28, 29, 30, 31, 32] : List Nat).filterMap (fun i => (ow q B o ++ (hw q (B 1) h1 ++ (hw q (B 2) ((hL u_56), (hK u_56), (hP u_56), (hE u_56), (hR u_56), (hN u_56), (hC u_56), (hM u_56), ((stL S N (nI (pop (clN (goS S N) N))) i).1), (hJ u_56), (hH u_56)) ++ (hw q (B 3) h3 ++ (tw q (B 4) t ++ (sw q (B 5) g))))))[i]?)) (isC := [13, 14, 15, 16, 17, 18, 19, 20]) (isR := [0, 1, 2, 3, 4, 5, 6, 7, 8, 9, 10, 11, 12, 21, 22, 23, 24, 25, 26, 27, 28, 29, 30, 31, 32]) (pm := [0, 1, 2, 3, 4, 5, 6, 7, 8, 9, 10, 11, 12, 25, 26, 27, 28, 29, 30, 31, 32, 13, 14, 15, 16, 17, 18, 19, 20, 21, 22, 23, 24]) (w1' := (fun u_71 => (ow q B o ++ (hw q (B 1) h1 ++ (hw q (B 2) u_71 ++ (hw q (B 3) h3 ++ (tw q (B 4) t ++ (sw q (B 5) g)))))))) C (rd_V C (k_X0_passByDraws l D q tt (B 2) ((hL u_56), (hK u_56), (hP u_56), (hE u_56), (hR u_56), (hN u_56), (hC u_56), (hM u_56), ((stL S N (nI (pop (clN (goS S N) N))) i).1), (hJ u_56), (hH u_56)) (upd S 2 ((stL S N (nI (pop (clN (goS S N) N))) i).1)) N (hG.z _) (hr_z _ (tr_56 S N hG rS))) gX4_stir_X0_passByDraws rfl rfl rfl 0 ok_X0_passByDraws rfl 0 rfl rfl (rest := []) rfl rfl (Nat.le_of_ble_eq_true rfl) dX4_stir_71 ⟨(Nat.le_of_ble_eq_true rfl), (Nat.le_of_ble_eq_true rfl)⟩ ⟨(Nat.le_of_ble_eq_true rfl), (Nat.le_of_ble_eq_true rfl)⟩) rfl rfl rfl (fun _ => rfl) rfl (fun u_71 h_71 => ?_)
          have rS_71 := h_71
          refine g_wsc (ow q B o ++ (hw q (B 1) h1 ++ (hw q (B 2) u_71 ++ (hw q (B 3) h3 ++ (tw q (B 4) t ++ (sw q (B 5) g)))))) rfl ?_
          refine g_aloadn C dX4_stir_74 0 rfl rfl ?_
          refine g_get C fx4 w_0 0 1 (v := .ref ((B 2) 0)) rfl (by decide) w_1 rfl dX4_stir_75 ?_
          refine g_get C fx0 w_2 13 8 (v := .int (hZ u_71)) rfl (by decide) w_5 rfl dX4_stir_78 ?_
          refine g_topci ((stL S N (nI (pop (clN (goS S N) N))) (i + 1)).1) (rS_71.z) ?_
          refine g_istoren C [(3, .int ((stL S N (nI (pop (clN (goS S N) N))) (i + 1)).1)), (0, .ref ((B 0) 0)), (1, .int x), (2, .int (nI (pop (clN (goS S N) N)))), (4, .int ((stL S N (nI (pop (clN (goS S N) N))) i).2)), (5, .int (nI i))] dX4_stir_81 rfl (by decide) rfl ?_
          refine g_aloadn C dX4_stir_82 1 rfl rfl ?_
          refine g_get C fx4 w_0 0 1 (v := .ref ((B 2) 0)) rfl (by decide) w_1 rfl dX4_stir_83 ?_
          refine g_get C fx0 w_2 13 6 (v := .int (hC u_71)) rfl (by decide) w_3 rfl dX4_stir_86 ?_
          refine g_topci (nI (clN (mnS (upd S 2 ((stL S N (nI (pop (clN (goS S N) N))) i).1)) N) N)) (rS_71.c) ?_
          refine g_call0i C (rd_S C (k_J6_bitCount_0f7a4 l D q tt (clN (mnS (upd S 2 ((stL S N (nI (pop (clN (goS S N) N))) i).1)) N) N) (clN_256 h8)) gX4_stir_J6_bitCount_0f7a4 rfl rfl rfl 1 ok_J6_bitCount_0f7a4 (rest := []) rfl rfl (Nat.le_of_ble_eq_true rfl) dX4_stir_89 ⟨(Nat.le_of_ble_eq_true rfl), (Nat.le_of_ble_eq_true rfl)⟩ ⟨(Nat.le_of_ble_eq_true rfl), (Nat.le_of_ble_eq_true rfl)⟩) (fun _ => rfl) (fun r_89 _ h_89 => ?_)
          obtain rfl := h_89
          refine g_iloadn C dX4_stir_92 3 rfl rfl ?_
          refine g_icmp_le C 99 dX4_stir_93 rfl (fun c_93 => ?_) (fun c_93 => ?_)
          · refine g_lvc 4 (lv' := [(3, .int ((stL S N (nI (pop (clN (goS S N) N))) (i + 1)).1)), (0, .ref ((B 0) 0)), (1, .int x), (2, .int (nI (pop (clN (goS S N) N)))), (4, .int ((stL S N (nI (pop (clN (goS S N) N))) (i + 1)).2)), (5, .int (nI i))]) (by rw [show ((stL S N (nI (pop (clN (goS S N) N))) i).2) = ((stL S N (nI (pop (clN (goS S N) N))) (i + 1)).2) from by show _ = (stL S N (nI (pop (clN (goS S N) N))) i).2 + (if _ then 1 else 0); rw [if_neg (Int32.not_lt.mpr c_93)]; simp]) ?_
            refine g_iinc C (nI (i + 1)) [(5, .int (nI (i + 1))), (3, .int ((stL S N (nI (pop (clN (goS S N) N))) (i + 1)).1)), (0, .ref ((B 0) 0)), (1, .int x), (2, .int (nI (pop (clN (goS S N) N)))), (4, .int ((stL S N (nI (pop (clN (goS S N) N))) (i + 1)).2))] dX4_stir_99 5 rfl (nI_add i 1) (by decide) rfl ?_
            refine g_goto C 49 dX4_stir_102 rfl ?_
            refine g_sub [2, 3, 4, 1, 5, 0] (lv' := [(0, .ref ((B 0) 0)), (1, .int x), (2, .int (nI (pop (clN (goS S N) N)))), (3, .int ((stL S N (nI (pop (clN (goS S N) N))) (i + 1)).1)), (4, .int ((stL S N (nI (pop (clN (goS S N) N))) (i + 1)).2)), (5, .int (nI (i + 1)))]) rfl ?_
            exact ih ((i + 1)) (u_71) (by omega) (by first | assumption | omega)
          · refine g_iinc C (((stL S N (nI (pop (clN (goS S N) N))) i).2) + 1) [(4, .int (((stL S N (nI (pop (clN (goS S N) N))) i).2) + 1)), (3, .int ((stL S N (nI (pop (clN (goS S N) N))) (i + 1)).1)), (0, .ref ((B 0) 0)), (1, .int x), (2, .int (nI (pop (clN (goS S N) N)))), (5, .int (nI i))] dX4_stir_96 4 rfl rfl (by decide) rfl ?_
            refine g_lvc 0 (lv' := [(4, .int ((stL S N (nI (pop (clN (goS S N) N))) (i + 1)).2)), (3, .int ((stL S N (nI (pop (clN (goS S N) N))) (i + 1)).1)), (0, .ref ((B 0) 0)), (1, .int x), (2, .int (nI (pop (clN (goS S N) N)))), (5, .int (nI i))]) (by rw [show (((stL S N (nI (pop (clN (goS S N) N))) i).2) + 1) = ((stL S N (nI (pop (clN (goS S N) N))) (i + 1)).2) from by show _ = (stL S N (nI (pop (clN (goS S N) N))) i).2 + (if _ then 1 else 0); rw [if_pos (Int32.not_le.mp c_93)]]) ?_
            refine g_iinc C (nI (i + 1)) [(5, .int (nI (i + 1))), (4, .int ((stL S N (nI (pop (clN (goS S N) N))) (i + 1)).2)), (3, .int ((stL S N (nI (pop (clN (goS S N) N))) (i + 1)).1)), (0, .ref ((B 0) 0)), (1, .int x), (2, .int (nI (pop (clN (goS S N) N))))] dX4_stir_99 5 rfl (nI_add i 1) (by decide) rfl ?_
            refine g_goto C 49 dX4_stir_102 rfl ?_
            refine g_sub [3, 4, 5, 2, 1, 0] (lv' := [(0, .ref ((B 0) 0)), (1, .int x), (2, .int (nI (pop (clN (goS S N) N)))), (3, .int ((stL S N (nI (pop (clN (goS S N) N))) (i + 1)).1)), (4, .int ((stL S N (nI (pop (clN (goS S N) N))) (i + 1)).2)), (5, .int (nI (i + 1)))]) rfl ?_
            exact ih ((i + 1)) (u_71) (by omega) (by first | assumption | omega)
    refine g_sub [4, 5, 3, 2, 1, 0] (lv' := [(0, .ref ((B 0) 0)), (1, .int x), (2, .int (nI (pop (clN (goS S N) N)))), (3, .int (S 2)), (4, .int 0), (5, .int 0)]) rfl ?_
    exact J_49 _ (0) (u_21) (Nat.lt_succ_self _) (by first | assumption | omega)
  · refine g_iconst C (-1) dX4_stir_10 (by decide) ?_
    exact g_iret C h2 hr dX4_stir_11 (Nat.le_of_ble_eq_true rfl) (Nat.le_of_ble_eq_true rfl) rfl (by unfold R_stir; (try simp only [hS0]); (repeat' split) <;> first | rfl | (rw [ec, show j = i by omega]; done) | (exfalso; simp only [lg_lt0, lg_gt0, w_le, w_lt, Int32.lt_iff_toInt_lt, Int32.le_iff_toInt_le, ← Int32.toInt_inj, tI_0, tI_1, tI_2, tI_3, tI_4, tI_5, tI_6, tI_7, tI_8, tI_9, tI_10, tI_13, tI_19, tI_20, tI_30, tI_32, tI_40, tI_48, tI_57, tI_59, tI_60, tI_97, tI_99, tI_100, tI_122, tI_200, tI_m1, tI_m2, tI_m3, tI_39, not_and, not_or] at * <;> omega))

