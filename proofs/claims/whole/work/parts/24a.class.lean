set_option maxRecDepth 100000 in
set_option maxHeartbeats 4000000 in
theorem k_X4_keep (l : Launch) (D : va_G) (q : Nat → ClassId) (tt : Nat → Nat) (B : Nat → Nat → Nat) (o : OC) (h1 : HC) (h2 : HC) (h3 : HC) (t : TC) (g : GC)  : MI l D q tt yX4_keep wsX4_keep ({ frames := 2, cells := 0, slots := 0, locals := 81 } : Room) [.ref ((B 0) 0)] (ow q B o ++ (hw q (B 1) h1 ++ (hw q (B 2) h2 ++ (hw q (B 3) h3 ++ (tw q (B 4) t ++ (sw q (B 5) g)))))) (fun (r : Int32) (u : HC) => r = 1 ∧ ∀ S N, Gd S N → HR S N h1 → HR S N u) (fun u => (ow q B (1, (o_rows o), (o_rowCount o), (o_sheets o), (o_shelvedRows o), (o_shelvedPeople o)) ++ (hw q (B 1) h1 ++ (hw q (B 2) h2 ++ (hw q (B 3) u ++ (tw q (B 4) t ++ (sw q (B 5) g))))))) 0 0 := by
  refine MI.of RX4 [(0, .ref ((B 0) 0))] (by decide) rfl rfl (Nat.le_of_ble_eq_true rfl) rfl ?_
  intro p e s m args below meth c A C hr hnm
  have w_0 : ∀ w ∈ u_ws RX4 TX4 11, w ∈ wsX4_keep := by decide +kernel
  have w_1 : Cond.fieldLink RX4 19 (TX4 2).1 (TX4 2).2.1 (TX4 2).2.2.1 ∈ wsX4_keep := by decide +kernel
  have w_2 : Cond.fieldLink RX4 10 (TX4 0).1 (TX4 0).2.1 (TX4 0).2.2.1 ∈ wsX4_keep := by decide +kernel
  have w_3 : Cond.fieldLink RX4 22 (TX4 3).1 (TX4 3).2.1 (TX4 3).2.2.1 ∈ wsX4_keep := by decide +kernel
  refine g_aloadn C dX4_keep_0 0 rfl rfl ?_
  refine g_get C fx4 w_0 0 2 (v := .ref ((B 3) 0)) rfl (by decide) w_1 rfl dX4_keep_1 ?_
  refine g_aloadn C dX4_keep_4 0 rfl rfl ?_
  refine g_get C fx4 w_0 0 0 (v := .ref ((B 1) 0)) rfl (by decide) w_2 rfl dX4_keep_5 ?_
  refine g_callWv (w1 := (ow q B o ++ (hw q (B 1) h1 ++ (hw q (B 2) h2 ++ (hw q (B 3) h3 ++ (tw q (B 4) t ++ (sw q (B 5) g))))))) (wr := ([0, 1, 2, 3, 4, 13, 14, 15, 16, 17, 18, 19, 20, 29, 30, 31, 32] : List Nat).filterMap (fun i => (ow q B o ++ (hw q (B 1) h1 ++ (hw q (B 2) h2 ++ (hw q (B 3) h3 ++ (tw q (B 4) t ++ (sw q (B 5) g))))))[i]?)) (isC := [21, 22, 23, 24, 25, 26, 27, 28, 5, 6, 7, 8, 9, 10, 11, 12]) (isR := [0, 1, 2, 3, 4, 13, 14, 15, 16, 17, 18, 19, 20, 29, 30, 31, 32]) (pm := [0, 1, 2, 3, 4, 25, 26, 27, 28, 29, 30, 31, 32, 5, 6, 7, 8, 9, 10, 11, 12, 17, 18, 19, 20, 21, 22, 23, 24, 13, 14, 15, 16]) (w1' := (fun u_8 => (ow q B o ++ (hw q (B 1) h1 ++ (hw q (B 2) h2 ++ (hw q (B 3) u_8 ++ (tw q (B 4) t ++ (sw q (B 5) g)))))))) C (rd_V C (k_X0_become l D q tt (B 3) (B 1) h3 h1 ) gX4_keep_X0_become rfl rfl rfl 1 ok_X0_become rfl 0 rfl rfl (rest := []) rfl rfl (Nat.le_of_ble_eq_true rfl) dX4_keep_8 ⟨(Nat.le_of_ble_eq_true rfl), (Nat.le_of_ble_eq_true rfl)⟩ ⟨(Nat.le_of_ble_eq_true rfl), (Nat.le_of_ble_eq_true rfl)⟩) rfl rfl rfl (fun _ => rfl) rfl (fun u_8 h_8 => ?_)
  have bc_8 := h_8
  refine g_aloadn C dX4_keep_11 0 rfl rfl ?_
  refine g_iconst C 1 dX4_keep_12 (by decide) ?_
  refine g_put C fx4 w_0 0 3 rfl (by decide) w_3 rfl rfl rfl (Nat.le_of_ble_eq_true rfl) dX4_keep_13 (ow q B (1, (o_rows o), (o_rowCount o), (o_sheets o), (o_shelvedRows o), (o_shelvedPeople o)) ++ (hw q (B 1) h1 ++ (hw q (B 2) h2 ++ (hw q (B 3) u_8 ++ (tw q (B 4) t ++ (sw q (B 5) g)))))) rfl ?_
  refine g_iconst C 1 dX4_keep_16 (by decide) ?_
  exact g_iret C u_8 hr dX4_keep_17 (Nat.le_of_ble_eq_true rfl) (Nat.le_of_ble_eq_true rfl) rfl (⟨rfl, bc_8⟩)

set_option maxRecDepth 100000 in
set_option maxHeartbeats 4000000 in
theorem k_X4_again (l : Launch) (D : va_G) (q : Nat → ClassId) (tt : Nat → Nat) (B : Nat → Nat → Nat) (o : OC) (h1 : HC) (h2 : HC) (h3 : HC) (t : TC) (g : GC)  : MI l D q tt yX4_again wsX4_again ({ frames := 2, cells := 0, slots := 0, locals := 81 } : Room) [.ref ((B 0) 0)] (ow q B o ++ (hw q (B 1) h1 ++ (hw q (B 2) h2 ++ (hw q (B 3) h3 ++ (tw q (B 4) t ++ (sw q (B 5) g)))))) (fun (r : Int32) (u : HC) => (o_keeps o = 0 ∧ r = -3 ∧ u = h1) ∨ (¬ o_keeps o = 0 ∧ r = hN u ∧ ∀ S N, Gd S N → HR S N h3 → HR S N u)) (fun u => (ow q B o ++ (hw q (B 1) u ++ (hw q (B 2) h2 ++ (hw q (B 3) h3 ++ (tw q (B 4) t ++ (sw q (B 5) g))))))) 0 0 := by
  refine MI.of RX4 [(0, .ref ((B 0) 0))] (by decide) rfl rfl (Nat.le_of_ble_eq_true rfl) rfl ?_
  intro p e s m args below meth c A C hr hnm
  have w_0 : ∀ w ∈ u_ws RX4 TX4 11, w ∈ wsX4_again := by decide +kernel
  have w_1 : Cond.fieldLink RX4 22 (TX4 3).1 (TX4 3).2.1 (TX4 3).2.2.1 ∈ wsX4_again := by decide +kernel
  have w_2 : Cond.fieldLink RX4 10 (TX4 0).1 (TX4 0).2.1 (TX4 0).2.2.1 ∈ wsX4_again := by decide +kernel
  have w_3 : Cond.fieldLink RX4 19 (TX4 2).1 (TX4 2).2.1 (TX4 2).2.2.1 ∈ wsX4_again := by decide +kernel
  have w_4 : ∀ w ∈ u_ws RX0 TX0 11, w ∈ wsX4_again := by decide +kernel
  have w_5 : Cond.fieldLink RX4 85 (TX0 5).1 (TX0 5).2.1 (TX0 5).2.2.1 ∈ wsX4_again := by decide +kernel
  refine g_aloadn C dX4_again_0 0 rfl rfl ?_
  refine g_get C fx4 w_0 0 3 (v := .int (o_keeps o)) rfl (by decide) w_1 rfl dX4_again_1 ?_
  refine g_if_ne C 10 dX4_again_4 rfl (fun c_4 => ?_) (fun c_4 => ?_)
  · refine g_aloadn C dX4_again_10 0 rfl rfl ?_
    refine g_get C fx4 w_0 0 0 (v := .ref ((B 1) 0)) rfl (by decide) w_2 rfl dX4_again_11 ?_
    refine g_aloadn C dX4_again_14 0 rfl rfl ?_
    refine g_get C fx4 w_0 0 2 (v := .ref ((B 3) 0)) rfl (by decide) w_3 rfl dX4_again_15 ?_
    refine g_callWv (w1 := (ow q B o ++ (hw q (B 1) h1 ++ (hw q (B 2) h2 ++ (hw q (B 3) h3 ++ (tw q (B 4) t ++ (sw q (B 5) g))))))) (wr := ([0, 1, 2, 3, 4, 13, 14, 15, 16, 17, 18, 19, 20, 29, 30, 31, 32] : List Nat).filterMap (fun i => (ow q B o ++ (hw q (B 1) h1 ++ (hw q (B 2) h2 ++ (hw q (B 3) h3 ++ (tw q (B 4) t ++ (sw q (B 5) g))))))[i]?)) (isC := [5, 6, 7, 8, 9, 10, 11, 12, 21, 22, 23, 24, 25, 26, 27, 28]) (isR := [0, 1, 2, 3, 4, 13, 14, 15, 16, 17, 18, 19, 20, 29, 30, 31, 32]) (pm := [0, 1, 2, 3, 4, 17, 18, 19, 20, 21, 22, 23, 24, 5, 6, 7, 8, 9, 10, 11, 12, 25, 26, 27, 28, 29, 30, 31, 32, 13, 14, 15, 16]) (w1' := (fun u_18 => (ow q B o ++ (hw q (B 1) u_18 ++ (hw q (B 2) h2 ++ (hw q (B 3) h3 ++ (tw q (B 4) t ++ (sw q (B 5) g)))))))) C (rd_V C (k_X0_become l D q tt (B 1) (B 3) h1 h3 ) gX4_again_X0_become rfl rfl rfl 1 ok_X0_become rfl 0 rfl rfl (rest := []) rfl rfl (Nat.le_of_ble_eq_true rfl) dX4_again_18 ⟨(Nat.le_of_ble_eq_true rfl), (Nat.le_of_ble_eq_true rfl)⟩ ⟨(Nat.le_of_ble_eq_true rfl), (Nat.le_of_ble_eq_true rfl)⟩) rfl rfl rfl (fun _ => rfl) rfl (fun u_18 h_18 => ?_)
    have bc_18 := h_18
    refine g_aloadn C dX4_again_21 0 rfl rfl ?_
    refine g_get C fx4 w_0 0 0 (v := .ref ((B 1) 0)) rfl (by decide) w_2 rfl dX4_again_22 ?_
    refine g_get C fx0 w_4 5 5 (v := .int (hN u_18)) rfl (by decide) w_5 rfl dX4_again_25 ?_
    exact g_iret C u_18 hr dX4_again_28 (Nat.le_of_ble_eq_true rfl) (Nat.le_of_ble_eq_true rfl) rfl (Or.inr ⟨c_4, rfl, bc_18⟩)
  · refine g_bipush C (-3) dX4_again_7 (by decide) ?_
    exact g_iret C h1 hr dX4_again_9 (Nat.le_of_ble_eq_true rfl) (Nat.le_of_ble_eq_true rfl) rfl (Or.inl ⟨by first | exact c_4 | exact Decidable.not_not.mp c_4, rfl, rfl⟩)

set_option maxRecDepth 100000 in
set_option maxHeartbeats 4000000 in
theorem k_X4_many (l : Launch) (D : va_G) (q : Nat → ClassId) (tt : Nat → Nat) (B : Nat → Nat → Nat) (o : OC) (h1 : HC) (h2 : HC) (h3 : HC) (t : TC) (g : GC) (S : Nat → Int32) (N : Nat) (x : Int32) (hG : Gd S N) (rS : HR S N h1) : MI l D q tt yX4_many wsX4_many ({ frames := 1, cells := 0, slots := 0, locals := 22 } : Room) [.ref ((B 0) 0), .int x] (ow q B o ++ (hw q (B 1) h1 ++ (hw q (B 2) h2 ++ (hw q (B 3) h3 ++ (tw q (B 4) t ++ (sw q (B 5) g)))))) (fun (r : Int32) (u : Unit) => r = R_many S N (o_rowCount o) (tL t) (gN g) x) (fun (_ : Unit) => (ow q B o ++ (hw q (B 1) h1 ++ (hw q (B 2) h2 ++ (hw q (B 3) h3 ++ (tw q (B 4) t ++ (sw q (B 5) g))))))) 0 0 := by
  refine MI.of RX4 [(0, .ref ((B 0) 0)), (1, .int x)] (by decide) rfl rfl (Nat.le_of_ble_eq_true rfl) rfl ?_
  intro p e s m args below meth c A C hr hnm
  have w_0 : ∀ w ∈ u_ws RX4 TX4 11, w ∈ wsX4_many := by decide +kernel
  have w_1 : Cond.fieldLink RX4 10 (TX4 0).1 (TX4 0).2.1 (TX4 0).2.2.1 ∈ wsX4_many := by decide +kernel
  have w_2 : ∀ w ∈ u_ws RX0 TX0 11, w ∈ wsX4_many := by decide +kernel
  have w_3 : Cond.fieldLink RX4 85 (TX0 5).1 (TX0 5).2.1 (TX0 5).2.2.1 ∈ wsX4_many := by decide +kernel
  have w_4 : Cond.fieldLink RX4 152 (TX0 6).1 (TX0 6).2.1 (TX0 6).2.2.1 ∈ wsX4_many := by decide +kernel
  have w_5 : Cond.fieldLink RX4 44 (TX4 7).1 (TX4 7).2.1 (TX4 7).2.2.1 ∈ wsX4_many := by decide +kernel
  have w_6 : Cond.fieldLink RX4 29 (TX4 4).1 (TX4 4).2.1 (TX4 4).2.2.1 ∈ wsX4_many := by decide +kernel
  have w_7 : ∀ w ∈ u_ws RX3 TX3 5, w ∈ wsX4_many := by decide +kernel
  have w_8 : Cond.fieldLink RX4 64 (TX3 0).1 (TX3 0).2.1 (TX3 0).2.2.1 ∈ wsX4_many := by decide +kernel
  have w_9 : Cond.fieldLink RX4 36 (TX4 5).1 (TX4 5).2.1 (TX4 5).2.2.1 ∈ wsX4_many := by decide +kernel
  have w_10 : ∀ w ∈ u_ws RX2 TX2 6, w ∈ wsX4_many := by decide +kernel
  have w_11 : Cond.fieldLink RX4 259 (TX2 1).1 (TX2 1).2.1 (TX2 1).2.2.1 ∈ wsX4_many := by decide +kernel
  have h8 := hG.le
  have hS0 := hG.n
  obtain ⟨k, hk, ek⟩ := rt_ix hG N (Nat.le_refl N)
  refine g_iloadn C dX4_many_0 1 rfl rfl ?_
  by_cases s_1_0 : x = 0
  · refine g_tin C 44 dX4_many_1 (by rw [s_1_0]; decide) (by rw [s_1_0]; decide) (by rw [s_1_0]; rfl) rfl ?_
    refine g_aloadn C dX4_many_44 0 rfl rfl ?_
    refine g_get C fx4 w_0 0 0 (v := .ref ((B 1) 0)) rfl (by decide) w_1 rfl dX4_many_45 ?_
    refine g_get C fx0 w_2 5 5 (v := .int (hN h1)) rfl (by decide) w_3 rfl dX4_many_48 ?_
    refine g_topci (nI N) (rS.n hG) ?_
    exact g_iret C () hr dX4_many_51 (Nat.le_of_ble_eq_true rfl) (Nat.le_of_ble_eq_true rfl) rfl (by unfold R_many; rw [if_pos s_1_0]; exact hS0.symm)
  by_cases s_1_1 : x = 1
  · refine g_tin C 52 dX4_many_1 (by rw [s_1_1]; decide) (by rw [s_1_1]; decide) (by rw [s_1_1]; rfl) rfl ?_
    refine g_aloadn C dX4_many_52 0 rfl rfl ?_
    refine g_get C fx4 w_0 0 0 (v := .ref ((B 1) 0)) rfl (by decide) w_1 rfl dX4_many_53 ?_
    refine g_get C fx0 w_2 5 6 (v := .int (hC h1)) rfl (by decide) w_4 rfl dX4_many_56 ?_
    refine g_topci (clS S N) (rS.c) ?_
    refine g_call0i C (rd_S C (k_J6_bitCount_0f7a4 l D q tt (clN S N) (clN_256 h8)) gX4_many_J6_bitCount_0f7a4 rfl rfl rfl 1 ok_J6_bitCount_0f7a4 (rest := []) rfl rfl (Nat.le_of_ble_eq_true rfl) dX4_many_59 ⟨(Nat.le_of_ble_eq_true rfl), (Nat.le_of_ble_eq_true rfl)⟩ ⟨(Nat.le_of_ble_eq_true rfl), (Nat.le_of_ble_eq_true rfl)⟩) (fun _ => rfl) (fun r_59 _ h_59 => ?_)
    obtain rfl := h_59
    exact g_iret C () hr dX4_many_62 (Nat.le_of_ble_eq_true rfl) (Nat.le_of_ble_eq_true rfl) rfl (by unfold R_many; rw [if_neg s_1_0, if_pos s_1_1])
  by_cases s_1_2 : x = 2
  · refine g_tin C 63 dX4_many_1 (by rw [s_1_2]; decide) (by rw [s_1_2]; decide) (by rw [s_1_2]; rfl) rfl ?_
    refine g_aloadn C dX4_many_63 0 rfl rfl ?_
    refine g_get C fx4 w_0 0 0 (v := .ref ((B 1) 0)) rfl (by decide) w_1 rfl dX4_many_64 ?_
    refine g_callWi (w1 := (ow q B o ++ (hw q (B 1) h1 ++ (hw q (B 2) h2 ++ (hw q (B 3) h3 ++ (tw q (B 4) t ++ (sw q (B 5) g))))))) (wr := ([0, 1, 2, 3, 4, 13, 14, 15, 16, 17, 18, 19, 20, 21, 22, 23, 24, 25, 26, 27, 28, 29, 30, 31, 32] : List Nat).filterMap (fun i => (ow q B o ++ (hw q (B 1) h1 ++ (hw q (B 2) h2 ++ (hw q (B 3) h3 ++ (tw q (B 4) t ++ (sw q (B 5) g))))))[i]?)) (isC := [5, 6, 7, 8, 9, 10, 11, 12]) (isR := [0, 1, 2, 3, 4, 13, 14, 15, 16, 17, 18, 19, 20, 21, 22, 23, 24, 25, 26, 27, 28, 29, 30, 31, 32]) (pm := [0, 1, 2, 3, 4, 25, 26, 27, 28, 29, 30, 31, 32, 5, 6, 7, 8, 9, 10, 11, 12, 13, 14, 15, 16, 17, 18, 19, 20, 21, 22, 23, 24]) (w1' := (fun _ => (ow q B o ++ (hw q (B 1) h1 ++ (hw q (B 2) h2 ++ (hw q (B 3) h3 ++ (tw q (B 4) t ++ (sw q (B 5) g)))))))) C (rd_V C (k_X0_roomsTaken l D q tt (B 1) h1 S N (by first | assumption | omega) (by first | assumption | omega)) gX4_many_X0_roomsTaken rfl rfl rfl 0 ok_X0_roomsTaken rfl 0 rfl rfl (rest := []) rfl rfl (Nat.le_of_ble_eq_true rfl) dX4_many_67 ⟨(Nat.le_of_ble_eq_true rfl), (Nat.le_of_ble_eq_true rfl)⟩ ⟨(Nat.le_of_ble_eq_true rfl), (Nat.le_of_ble_eq_true rfl)⟩) rfl rfl rfl (fun _ => rfl) rfl (fun r_67 _ h_67 => ?_)
    obtain rfl := h_67
    refine g_topci (nI k) (ek) ?_
    refine g_call0i C (rd_S C (k_J6_bitCount_0f7a4 l D q tt k hk) gX4_many_J6_bitCount_0f7a4 rfl rfl rfl 1 ok_J6_bitCount_0f7a4 (rest := []) rfl rfl (Nat.le_of_ble_eq_true rfl) dX4_many_70 ⟨(Nat.le_of_ble_eq_true rfl), (Nat.le_of_ble_eq_true rfl)⟩ ⟨(Nat.le_of_ble_eq_true rfl), (Nat.le_of_ble_eq_true rfl)⟩) (fun _ => rfl) (fun r_70 _ h_70 => ?_)
    obtain rfl := h_70
    exact g_iret C () hr dX4_many_73 (Nat.le_of_ble_eq_true rfl) (Nat.le_of_ble_eq_true rfl) rfl (by unfold R_many; rw [if_neg s_1_0, if_neg s_1_1, if_pos s_1_2]; rw [ek, nI_clamp (by omega)])
  by_cases s_1_3 : x = 3
  · refine g_tin C 74 dX4_many_1 (by rw [s_1_3]; decide) (by rw [s_1_3]; decide) (by rw [s_1_3]; rfl) rfl ?_
    refine g_aloadn C dX4_many_74 0 rfl rfl ?_
    refine g_get C fx4 w_0 0 0 (v := .ref ((B 1) 0)) rfl (by decide) w_1 rfl dX4_many_75 ?_
    refine g_callWi (w1 := (ow q B o ++ (hw q (B 1) h1 ++ (hw q (B 2) h2 ++ (hw q (B 3) h3 ++ (tw q (B 4) t ++ (sw q (B 5) g))))))) (wr := ([0, 1, 2, 3, 4, 13, 14, 15, 16, 17, 18, 19, 20, 21, 22, 23, 24, 25, 26, 27, 28, 29, 30, 31, 32] : List Nat).filterMap (fun i => (ow q B o ++ (hw q (B 1) h1 ++ (hw q (B 2) h2 ++ (hw q (B 3) h3 ++ (tw q (B 4) t ++ (sw q (B 5) g))))))[i]?)) (isC := [5, 6, 7, 8, 9, 10, 11, 12]) (isR := [0, 1, 2, 3, 4, 13, 14, 15, 16, 17, 18, 19, 20, 21, 22, 23, 24, 25, 26, 27, 28, 29, 30, 31, 32]) (pm := [0, 1, 2, 3, 4, 25, 26, 27, 28, 29, 30, 31, 32, 5, 6, 7, 8, 9, 10, 11, 12, 13, 14, 15, 16, 17, 18, 19, 20, 21, 22, 23, 24]) (w1' := (fun _ => (ow q B o ++ (hw q (B 1) h1 ++ (hw q (B 2) h2 ++ (hw q (B 3) h3 ++ (tw q (B 4) t ++ (sw q (B 5) g)))))))) C (rd_V C (k_X0_proudest l D q tt (B 1) h1 S N (by first | assumption | omega) (by first | assumption | omega)) gX4_many_X0_proudest rfl rfl rfl 0 ok_X0_proudest rfl 0 rfl rfl (rest := []) rfl rfl (Nat.le_of_ble_eq_true rfl) dX4_many_78 ⟨(Nat.le_of_ble_eq_true rfl), (Nat.le_of_ble_eq_true rfl)⟩ ⟨(Nat.le_of_ble_eq_true rfl), (Nat.le_of_ble_eq_true rfl)⟩) rfl rfl rfl (fun _ => rfl) rfl (fun r_78 _ h_78 => ?_)
    obtain rfl := h_78
    exact g_iret C () hr dX4_many_81 (Nat.le_of_ble_eq_true rfl) (Nat.le_of_ble_eq_true rfl) rfl (by unfold R_many; rw [if_neg s_1_0, if_neg s_1_1, if_neg s_1_2, if_pos s_1_3])
  by_cases s_1_4 : x = 4
  · refine g_tin C 82 dX4_many_1 (by rw [s_1_4]; decide) (by rw [s_1_4]; decide) (by rw [s_1_4]; rfl) rfl ?_
    refine g_aloadn C dX4_many_82 0 rfl rfl ?_
    refine g_get C fx4 w_0 0 7 (v := .int (o_rowCount o)) rfl (by decide) w_5 rfl dX4_many_83 ?_
    exact g_iret C () hr dX4_many_86 (Nat.le_of_ble_eq_true rfl) (Nat.le_of_ble_eq_true rfl) rfl (by unfold R_many; rw [if_neg s_1_0, if_neg s_1_1, if_neg s_1_2, if_neg s_1_3, if_pos s_1_4])
  by_cases s_1_5 : x = 5
  · refine g_tin C 87 dX4_many_1 (by rw [s_1_5]; decide) (by rw [s_1_5]; decide) (by rw [s_1_5]; rfl) rfl ?_
    refine g_aloadn C dX4_many_87 0 rfl rfl ?_
    refine g_get C fx4 w_0 0 4 (v := .ref ((B 4) 0)) rfl (by decide) w_6 rfl dX4_many_88 ?_
    refine g_get C fx3 w_7 29 0 (v := .int (tL t)) rfl (by decide) w_8 rfl dX4_many_91 ?_
    exact g_iret C () hr dX4_many_94 (Nat.le_of_ble_eq_true rfl) (Nat.le_of_ble_eq_true rfl) rfl (by unfold R_many; rw [if_neg s_1_0, if_neg s_1_1, if_neg s_1_2, if_neg s_1_3, if_neg s_1_4, if_pos s_1_5])
  by_cases s_1_6 : x = 6
  · refine g_tin C 95 dX4_many_1 (by rw [s_1_6]; decide) (by rw [s_1_6]; decide) (by rw [s_1_6]; rfl) rfl ?_
    refine g_aloadn C dX4_many_95 0 rfl rfl ?_
    refine g_get C fx4 w_0 0 5 (v := .ref ((B 5) 0)) rfl (by decide) w_9 rfl dX4_many_96 ?_
    refine g_get C fx2 w_10 31 1 (v := .int (gN g)) rfl (by decide) w_11 rfl dX4_many_99 ?_
    exact g_iret C () hr dX4_many_102 (Nat.le_of_ble_eq_true rfl) (Nat.le_of_ble_eq_true rfl) rfl (by unfold R_many; rw [if_neg s_1_0, if_neg s_1_1, if_neg s_1_2, if_neg s_1_3, if_neg s_1_4, if_neg s_1_5, if_pos s_1_6])
  have ns_1_0 := lv_neT s_1_0 (a := 0) (by decide)
  have ns_1_1 := lv_neT s_1_1 (a := 1) (by decide)
  have ns_1_2 := lv_neT s_1_2 (a := 2) (by decide)
  have ns_1_3 := lv_neT s_1_3 (a := 3) (by decide)
  have ns_1_4 := lv_neT s_1_4 (a := 4) (by decide)
  have ns_1_5 := lv_neT s_1_5 (a := 5) (by decide)
  have ns_1_6 := lv_neT s_1_6 (a := 6) (by decide)
  refine g_tout C 103 dX4_many_1 (by omega) rfl ?_
  refine g_iconst C (-1) dX4_many_103 (by decide) ?_
  exact g_iret C () hr dX4_many_104 (Nat.le_of_ble_eq_true rfl) (Nat.le_of_ble_eq_true rfl) rfl (by unfold R_many; rw [if_neg s_1_0, if_neg s_1_1, if_neg s_1_2, if_neg s_1_3, if_neg s_1_4, if_neg s_1_5, if_neg s_1_6])

