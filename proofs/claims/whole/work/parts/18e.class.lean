set_option maxRecDepth 100000 in
set_option maxHeartbeats 4000000 in
theorem k_X4_minutes (l : Launch) (D : va_G) (q : Nat → ClassId) (tt : Nat → Nat) (B : Nat → Nat → Nat) (o : OC) (h1 : HC) (h2 : HC) (h3 : HC) (t : TC) (g : GC) (S : Nat → Int32) (N : Nat) (x : Int32) (hG : Gd S N) (rS : HR S N h1) : MI l D q tt yX4_minutes wsX4_minutes ({ frames := 4, cells := 0, slots := 0, locals := 89 } : Room) [.ref ((B 0) 0), .int x] (ow q B o ++ (hw q (B 1) h1 ++ (hw q (B 2) h2 ++ (hw q (B 3) h3 ++ (tw q (B 4) t ++ (sw q (B 5) g)))))) (fun (r : Int32) (u : HC) => r = R_minutes S N x ∧ ∃ N2, Gd (S_minutes S N x) N2 ∧ HR (S_minutes S N x) N2 u) (fun u => (ow q B o ++ (hw q (B 1) u ++ (hw q (B 2) h2 ++ (hw q (B 3) h3 ++ (tw q (B 4) t ++ (sw q (B 5) g))))))) 0 0 := by
  refine MI.of RX4 [(0, .ref ((B 0) 0)), (1, .int x)] (by decide) rfl rfl (Nat.le_of_ble_eq_true rfl) rfl ?_
  intro p e s m args below meth c A C hr hnm
  have w_0 : ∀ w ∈ u_ws RX4 TX4 11, w ∈ wsX4_minutes := by decide +kernel
  have w_1 : Cond.fieldLink RX4 10 (TX4 0).1 (TX4 0).2.1 (TX4 0).2.2.1 ∈ wsX4_minutes := by decide +kernel
  have w_2 : ∀ w ∈ u_ws RX0 TX0 11, w ∈ wsX4_minutes := by decide +kernel
  have w_3 : Cond.fieldLink RX4 152 (TX0 6).1 (TX0 6).2.1 (TX0 6).2.2.1 ∈ wsX4_minutes := by decide +kernel
  have h8 := hG.le
  have hS0 := hG.n
  refine g_iloadn C dX4_minutes_0 1 rfl rfl ?_
  refine g_iconst C 1 dX4_minutes_1 (by decide) ?_
  refine g_bipush C 60 dX4_minutes_2 (by decide) ?_
  refine g_call0i C (rd_S C (k_X4_within l D q tt x 1 60 ) gX4_minutes_X4_within rfl rfl rfl 3 ok_X4_within (rest := []) rfl rfl (Nat.le_of_ble_eq_true rfl) dX4_minutes_4 ⟨(Nat.le_of_ble_eq_true rfl), (Nat.le_of_ble_eq_true rfl)⟩ ⟨(Nat.le_of_ble_eq_true rfl), (Nat.le_of_ble_eq_true rfl)⟩) (fun _ => rfl) (fun r_4 _ h_4 => ?_)
  obtain rfl := h_4
  refine g_ifneE C 12 dX4_minutes_7 rfl rfl (fun c_7 => ?_) (fun c_7 => ?_)
  · obtain ⟨j, hj, ej, ec⟩ := ix_le (n := 60) (by omega) ⟨Int32.le_trans (by decide) c_7.1, c_7.2⟩
    refine g_aloadn C dX4_minutes_12 0 rfl rfl ?_
    refine g_get C fx4 w_0 0 0 (v := .ref ((B 1) 0)) rfl (by decide) w_1 rfl dX4_minutes_13 ?_
    refine g_iloadn C dX4_minutes_16 1 rfl rfl ?_
    refine g_topci (nI j) (ej) ?_
    refine g_callWv (w1 := (ow q B o ++ (hw q (B 1) h1 ++ (hw q (B 2) h2 ++ (hw q (B 3) h3 ++ (tw q (B 4) t ++ (sw q (B 5) g))))))) (wr := ([0, 1, 2, 3, 4, 13, 14, 15, 16, 17, 18, 19, 20, 21, 22, 23, 24, 25, 26, 27, 28, 29, 30, 31, 32] : List Nat).filterMap (fun i => (ow q B o ++ (hw q (B 1) h1 ++ (hw q (B 2) h2 ++ (hw q (B 3) h3 ++ (tw q (B 4) t ++ (sw q (B 5) g))))))[i]?)) (isC := [5, 6, 7, 8, 9, 10, 11, 12]) (isR := [0, 1, 2, 3, 4, 13, 14, 15, 16, 17, 18, 19, 20, 21, 22, 23, 24, 25, 26, 27, 28, 29, 30, 31, 32]) (pm := [0, 1, 2, 3, 4, 25, 26, 27, 28, 29, 30, 31, 32, 5, 6, 7, 8, 9, 10, 11, 12, 13, 14, 15, 16, 17, 18, 19, 20, 21, 22, 23, 24]) (w1' := (fun u_17 => (ow q B o ++ (hw q (B 1) u_17 ++ (hw q (B 2) h2 ++ (hw q (B 3) h3 ++ (tw q (B 4) t ++ (sw q (B 5) g)))))))) C (rd_V C (k_X0_pass l D q tt (B 1) h1 S N j (by first | assumption | omega) (by first | assumption | omega) (by first | assumption | omega)) gX4_minutes_X0_pass rfl rfl rfl 1 ok_X0_pass rfl 0 rfl rfl (rest := []) rfl rfl (Nat.le_of_ble_eq_true rfl) dX4_minutes_17 ⟨(Nat.le_of_ble_eq_true rfl), (Nat.le_of_ble_eq_true rfl)⟩ ⟨(Nat.le_of_ble_eq_true rfl), (Nat.le_of_ble_eq_true rfl)⟩) rfl rfl rfl (fun _ => rfl) rfl (fun u_17 h_17 => ?_)
    have rS_17 := h_17
    refine g_aloadn C dX4_minutes_20 0 rfl rfl ?_
    refine g_get C fx4 w_0 0 0 (v := .ref ((B 1) 0)) rfl (by decide) w_1 rfl dX4_minutes_21 ?_
    refine g_get C fx0 w_2 5 6 (v := .int (hC u_17)) rfl (by decide) w_3 rfl dX4_minutes_24 ?_
    refine g_topci (nI (clN (gosS S N j) N)) (rS_17.c) ?_
    refine g_call0i C (rd_S C (k_J6_bitCount_0f7a4 l D q tt (clN (gosS S N j) N) (clN_256 h8)) gX4_minutes_J6_bitCount_0f7a4 rfl rfl rfl 1 ok_J6_bitCount_0f7a4 (rest := []) rfl rfl (Nat.le_of_ble_eq_true rfl) dX4_minutes_27 ⟨(Nat.le_of_ble_eq_true rfl), (Nat.le_of_ble_eq_true rfl)⟩ ⟨(Nat.le_of_ble_eq_true rfl), (Nat.le_of_ble_eq_true rfl)⟩) (fun _ => rfl) (fun r_27 _ h_27 => ?_)
    obtain rfl := h_27
    exact g_iret C u_17 hr dX4_minutes_30 (Nat.le_of_ble_eq_true rfl) (Nat.le_of_ble_eq_true rfl) rfl (by unfold R_minutes S_minutes; (try simp only [hS0]); (repeat' split) <;> first | exact ⟨rfl, N, hG, rS⟩ | (rw [ec]; exact ⟨rfl, N, hG.gos j, rS_17⟩) | (exfalso; simp only [lg_lt0, lg_gt0, w_le, w_lt, Int32.lt_iff_toInt_lt, Int32.le_iff_toInt_le, ← Int32.toInt_inj, tI_0, tI_1, tI_2, tI_3, tI_4, tI_5, tI_6, tI_7, tI_8, tI_9, tI_10, tI_13, tI_19, tI_20, tI_30, tI_32, tI_40, tI_48, tI_57, tI_59, tI_60, tI_97, tI_99, tI_100, tI_122, tI_200, tI_m1, tI_m2, tI_m3, tI_39, not_and, not_or] at * <;> omega))
  · refine g_iconst C (-1) dX4_minutes_10 (by decide) ?_
    exact g_iret C h1 hr dX4_minutes_11 (Nat.le_of_ble_eq_true rfl) (Nat.le_of_ble_eq_true rfl) rfl (by unfold R_minutes S_minutes; (try simp only [hS0]); (repeat' split) <;> first | exact ⟨rfl, N, hG, rS⟩ | (rw [ec]; exact ⟨rfl, N, hG.gos j, rS_17⟩) | (exfalso; simp only [lg_lt0, lg_gt0, w_le, w_lt, Int32.lt_iff_toInt_lt, Int32.le_iff_toInt_le, ← Int32.toInt_inj, tI_0, tI_1, tI_2, tI_3, tI_4, tI_5, tI_6, tI_7, tI_8, tI_9, tI_10, tI_13, tI_19, tI_20, tI_30, tI_32, tI_40, tI_48, tI_57, tI_59, tI_60, tI_97, tI_99, tI_100, tI_122, tI_200, tI_m1, tI_m2, tI_m3, tI_39, not_and, not_or] at * <;> omega))

set_option maxRecDepth 100000 in
set_option maxHeartbeats 4000000 in
theorem k_X4_seed (l : Launch) (D : va_G) (q : Nat → ClassId) (tt : Nat → Nat) (B : Nat → Nat → Nat) (o : OC) (h1 : HC) (h2 : HC) (h3 : HC) (t : TC) (g : GC) (S : Nat → Int32) (N : Nat) (x : Int32) (hG : Gd S N) (rS : HR S N h1) : MI l D q tt yX4_seed wsX4_seed ({ frames := 0, cells := 0, slots := 0, locals := 0 } : Room) [.ref ((B 0) 0), .int x] (ow q B o ++ (hw q (B 1) h1 ++ (hw q (B 2) h2 ++ (hw q (B 3) h3 ++ (tw q (B 4) t ++ (sw q (B 5) g)))))) (fun (r : Int32) (u : HC) => r = S 2 ∧ ∃ N2, Gd ((upd S 2 x)) N2 ∧ HR ((upd S 2 x)) N2 u) (fun u => (ow q B o ++ (hw q (B 1) u ++ (hw q (B 2) h2 ++ (hw q (B 3) h3 ++ (tw q (B 4) t ++ (sw q (B 5) g))))))) 0 0 := by
  refine MI.of RX4 [(0, .ref ((B 0) 0)), (1, .int x)] (by decide) rfl rfl (Nat.le_of_ble_eq_true rfl) rfl ?_
  intro p e s m args below meth c A C hr hnm
  have w_0 : ∀ w ∈ u_ws RX4 TX4 11, w ∈ wsX4_seed := by decide +kernel
  have w_1 : Cond.fieldLink RX4 10 (TX4 0).1 (TX4 0).2.1 (TX4 0).2.2.1 ∈ wsX4_seed := by decide +kernel
  have w_2 : ∀ w ∈ u_ws RX0 TX0 11, w ∈ wsX4_seed := by decide +kernel
  have w_3 : Cond.fieldLink RX4 74 (TX0 8).1 (TX0 8).2.1 (TX0 8).2.2.1 ∈ wsX4_seed := by decide +kernel
  have h8 := hG.le
  have hS0 := hG.n
  refine g_aloadn C dX4_seed_0 0 rfl rfl ?_
  refine g_get C fx4 w_0 0 0 (v := .ref ((B 1) 0)) rfl (by decide) w_1 rfl dX4_seed_1 ?_
  refine g_get C fx0 w_2 5 8 (v := .int (hZ h1)) rfl (by decide) w_3 rfl dX4_seed_4 ?_
  refine g_topci (S 2) (rS.z) ?_
  refine g_istoren C [(2, .int (S 2)), (0, .ref ((B 0) 0)), (1, .int x)] dX4_seed_7 rfl (by decide) rfl ?_
  refine g_aloadn C dX4_seed_8 1 rfl rfl ?_
  refine g_get C fx4 w_0 0 0 (v := .ref ((B 1) 0)) rfl (by decide) w_1 rfl dX4_seed_9 ?_
  refine g_iloadn C dX4_seed_12 2 rfl rfl ?_
  refine g_put C fx0 w_2 5 8 rfl (by decide) w_3 rfl rfl rfl (Nat.le_of_ble_eq_true rfl) dX4_seed_13 (ow q B o ++ (hw q (B 1) ((hL h1), (hK h1), (hP h1), (hE h1), (hR h1), (hN h1), (hC h1), (hM h1), x, (hJ h1), (hH h1)) ++ (hw q (B 2) h2 ++ (hw q (B 3) h3 ++ (tw q (B 4) t ++ (sw q (B 5) g)))))) rfl ?_
  refine g_iloadn C dX4_seed_16 0 rfl rfl ?_
  exact g_iret C ((hL h1), (hK h1), (hP h1), (hE h1), (hR h1), (hN h1), (hC h1), (hM h1), x, (hJ h1), (hH h1)) hr dX4_seed_17 (Nat.le_of_ble_eq_true rfl) (Nat.le_of_ble_eq_true rfl) rfl (⟨rfl, N, hG.z x, hr_z x rS⟩)

