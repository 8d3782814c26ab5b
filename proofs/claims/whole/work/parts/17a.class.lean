set_option maxRecDepth 100000 in
set_option maxHeartbeats 4000000 in
theorem k_X4_set (l : Launch) (D : va_G) (q : Nat → ClassId) (tt : Nat → Nat) (B : Nat → Nat → Nat) (o : OC) (h1 : HC) (h2 : HC) (h3 : HC) (t : TC) (g : GC) (S : Nat → Int32) (N : Nat) (x : Int32) (y : Int32) (hG : Gd S N) (rS : HR S N h1) : MI l D q tt yX4_set wsX4_set ({ frames := 2, cells := 0, slots := 0, locals := 42 } : Room) [.ref ((B 0) 0), .int x, .int y] (ow q B o ++ (hw q (B 1) h1 ++ (hw q (B 2) h2 ++ (hw q (B 3) h3 ++ (tw q (B 4) t ++ (sw q (B 5) g)))))) (fun (r : Int32) (u : HC) => r = R_set S x y ∧ ∃ N2, Gd (S_set S x y) N2 ∧ HR (S_set S x y) N2 u) (fun u => (ow q B o ++ (hw q (B 1) u ++ (hw q (B 2) h2 ++ (hw q (B 3) h3 ++ (tw q (B 4) t ++ (sw q (B 5) g))))))) 0 0 := by
  refine MI.of RX4 [(0, .ref ((B 0) 0)), (1, .int x), (2, .int y)] (by decide) rfl rfl (Nat.le_of_ble_eq_true rfl) rfl ?_
  intro p e s m args below meth c A C hr hnm
  have w_0 : Cond.fieldLink RX4 92 RX4 "LAW_LEAST" "[I" ∈ wsX4_set := by decide +kernel
  have w_1 : Cond.fieldLink RX4 95 RX4 "LAW_MOST" "[I" ∈ wsX4_set := by decide +kernel
  have w_2 : ∀ w ∈ u_ws RX4 TX4 11, w ∈ wsX4_set := by decide +kernel
  have w_3 : Cond.fieldLink RX4 10 (TX4 0).1 (TX4 0).2.1 (TX4 0).2.2.1 ∈ wsX4_set := by decide +kernel
  have w_4 : ∀ w ∈ u_ws RX0 TX0 11, w ∈ wsX4_set := by decide +kernel
  have w_5 : Cond.fieldLink RX4 98 (TX0 0).1 (TX0 0).2.1 (TX0 0).2.2.1 ∈ wsX4_set := by decide +kernel
  have h8 := hG.le
  have hS0 := hG.n
  refine g_iloadn C dX4_set_0 1 rfl rfl ?_
  refine g_call0i C (rd_S C (k_X4_isLaw l D q tt x ) gX4_set_X4_isLaw rfl rfl rfl 1 ok_X4_isLaw (rest := []) rfl rfl (Nat.le_of_ble_eq_true rfl) dX4_set_1 ⟨(Nat.le_of_ble_eq_true rfl), (Nat.le_of_ble_eq_true rfl)⟩ ⟨(Nat.le_of_ble_eq_true rfl), (Nat.le_of_ble_eq_true rfl)⟩) (fun _ => rfl) (fun r_1 _ h_1 => ?_)
  obtain rfl := h_1
  refine g_ifeqE C 24 dX4_set_4 rfl rfl (fun c_4 => ?_) (fun c_4 => ?_)
  · refine g_iconst C (-1) dX4_set_24 (by decide) ?_
    exact g_iret C h1 hr dX4_set_25 (Nat.le_of_ble_eq_true rfl) (Nat.le_of_ble_eq_true rfl) rfl (by unfold R_set S_set; (try simp only [hS0]); (repeat' split) <;> first | (rw [ec]; exact ⟨rfl, N, by have := Gd_set hG x y; unfold S_set at this; rw [if_pos (by assumption), ec] at this; exact this, hr_law rS (by omega)⟩) | exact ⟨rfl, N, hG, rS⟩ | (exfalso; simp only [lg_lt0, lg_gt0, w_le, w_lt, Int32.lt_iff_toInt_lt, Int32.le_iff_toInt_le, ← Int32.toInt_inj, tI_0, tI_1, tI_2, tI_3, tI_4, tI_5, tI_6, tI_7, tI_8, tI_9, tI_10, tI_13, tI_19, tI_20, tI_30, tI_32, tI_40, tI_48, tI_57, tI_59, tI_60, tI_97, tI_99, tI_100, tI_122, tI_200, tI_m1, tI_m2, tI_m3, tI_39, not_and, not_or] at * <;> omega))
  · obtain ⟨j, hj, ej, ec⟩ := ix_le (n := 3) (by omega) c_4
    refine g_iloadn C dX4_set_7 2 rfl rfl ?_
    refine g_gets C C.2.2.2.2.2.2.1.2.2.2.1 w_0 dX4_set_8 ?_
    refine g_iloadn C dX4_set_11 1 rfl rfl ?_
    refine g_topci (nI j) (ej) ?_
    refine g_ti C (j) C.2.2.2.2.2.2.1.2.2.2.1 rfl (by omega) (by decide) dX4_set_12 ?_
    refine g_gets C C.2.2.2.2.2.2.1.2.2.2.2.1 w_1 dX4_set_13 ?_
    refine g_iloadn C dX4_set_16 1 rfl rfl ?_
    refine g_topci (nI j) (ej) ?_
    refine g_ti C (j) C.2.2.2.2.2.2.1.2.2.2.2.1 rfl (by omega) (by decide) dX4_set_17 ?_
    refine g_call0i C (rd_S C (k_X4_within l D q tt y (tLL.getD j 0) (tLM.getD j 0) ) gX4_set_X4_within rfl rfl rfl 3 ok_X4_within (rest := []) rfl rfl (Nat.le_of_ble_eq_true rfl) dX4_set_18 ⟨(Nat.le_of_ble_eq_true rfl), (Nat.le_of_ble_eq_true rfl)⟩ ⟨(Nat.le_of_ble_eq_true rfl), (Nat.le_of_ble_eq_true rfl)⟩) (fun _ => rfl) (fun r_18 _ h_18 => ?_)
    obtain rfl := h_18
    refine g_topci (bI (((x = 1 ∧ 1 ≤ y) ∨ (¬ x = 1 ∧ 0 ≤ y)) ∧ ((x = 3 ∧ y ≤ 99) ∨ (¬ x = 3 ∧ y ≤ 9)))) (bI_congr (set_tab hj ej)) ?_
    refine g_ifneE C 26 dX4_set_21 rfl rfl (fun c_21 => ?_) (fun c_21 => ?_)
    · refine g_aloadn C dX4_set_26 0 rfl rfl ?_
      refine g_get C fx4 w_2 0 0 (v := .ref ((B 1) 0)) rfl (by decide) w_3 rfl dX4_set_27 ?_
      refine g_get C fx0 w_4 5 0 (v := .ref ((B 1) 1)) rfl (by decide) w_5 rfl dX4_set_30 ?_
      refine g_iloadn C dX4_set_33 1 rfl rfl ?_
      refine g_topci (nI j) (ej) ?_
      refine g_iald C 6 (j) (f := (hL h1)) rfl rfl (by omega) (by decide) dX4_set_34 ?_
      refine g_topci (S (3 + j)) (rS.1 _ (by omega)) ?_
      refine g_istoren C [(3, .int (S (3 + j))), (0, .ref ((B 0) 0)), (1, .int x), (2, .int y)] dX4_set_35 rfl (by decide) rfl ?_
      refine g_aloadn C dX4_set_36 1 rfl rfl ?_
      refine g_get C fx4 w_2 0 0 (v := .ref ((B 1) 0)) rfl (by decide) w_3 rfl dX4_set_37 ?_
      refine g_get C fx0 w_4 5 0 (v := .ref ((B 1) 1)) rfl (by decide) w_5 rfl dX4_set_40 ?_
      refine g_iloadn C dX4_set_43 2 rfl rfl ?_
      refine g_topci (nI j) (ej) ?_
      refine g_iloadn C dX4_set_44 3 rfl rfl ?_
      refine g_iast C 6 (j) (f := (hL h1)) rfl rfl (by omega) (by decide) dX4_set_45 (ow q B o ++ (hw q (B 1) ((upd (hL h1) j y), (hK h1), (hP h1), (hE h1), (hR h1), (hN h1), (hC h1), (hM h1), (hZ h1), (hJ h1), (hH h1)) ++ (hw q (B 2) h2 ++ (hw q (B 3) h3 ++ (tw q (B 4) t ++ (sw q (B 5) g)))))) rfl ?_
      refine g_iloadn C dX4_set_46 0 rfl rfl ?_
      exact g_iret C ((upd (hL h1) j y), (hK h1), (hP h1), (hE h1), (hR h1), (hN h1), (hC h1), (hM h1), (hZ h1), (hJ h1), (hH h1)) hr dX4_set_47 (Nat.le_of_ble_eq_true rfl) (Nat.le_of_ble_eq_true rfl) rfl (by unfold R_set S_set; (try simp only [hS0]); (repeat' split) <;> first | (rw [ec]; exact ⟨rfl, N, by have := Gd_set hG x y; unfold S_set at this; rw [if_pos (by assumption), ec] at this; exact this, hr_law rS (by omega)⟩) | exact ⟨rfl, N, hG, rS⟩ | (exfalso; simp only [lg_lt0, lg_gt0, w_le, w_lt, Int32.lt_iff_toInt_lt, Int32.le_iff_toInt_le, ← Int32.toInt_inj, tI_0, tI_1, tI_2, tI_3, tI_4, tI_5, tI_6, tI_7, tI_8, tI_9, tI_10, tI_13, tI_19, tI_20, tI_30, tI_32, tI_40, tI_48, tI_57, tI_59, tI_60, tI_97, tI_99, tI_100, tI_122, tI_200, tI_m1, tI_m2, tI_m3, tI_39, not_and, not_or] at * <;> omega))
    · refine g_iconst C (-1) dX4_set_24 (by decide) ?_
      exact g_iret C h1 hr dX4_set_25 (Nat.le_of_ble_eq_true rfl) (Nat.le_of_ble_eq_true rfl) rfl (by unfold R_set S_set; (try simp only [hS0]); (repeat' split) <;> first | (rw [ec]; exact ⟨rfl, N, by have := Gd_set hG x y; unfold S_set at this; rw [if_pos (by assumption), ec] at this; exact this, hr_law rS (by omega)⟩) | exact ⟨rfl, N, hG, rS⟩ | (exfalso; simp only [lg_lt0, lg_gt0, w_le, w_lt, Int32.lt_iff_toInt_lt, Int32.le_iff_toInt_le, ← Int32.toInt_inj, tI_0, tI_1, tI_2, tI_3, tI_4, tI_5, tI_6, tI_7, tI_8, tI_9, tI_10, tI_13, tI_19, tI_20, tI_30, tI_32, tI_40, tI_48, tI_57, tI_59, tI_60, tI_97, tI_99, tI_100, tI_122, tI_200, tI_m1, tI_m2, tI_m3, tI_39, not_and, not_or] at * <;> omega))

set_option maxRecDepth 100000 in
set_option maxHeartbeats 4000000 in
theorem k_X4_lawOf (l : Launch) (D : va_G) (q : Nat → ClassId) (tt : Nat → Nat) (B : Nat → Nat → Nat) (o : OC) (h1 : HC) (h2 : HC) (h3 : HC) (t : TC) (g : GC) (S : Nat → Int32) (N : Nat) (x : Int32) (hG : Gd S N) (rS : HR S N h1) : MI l D q tt yX4_lawOf wsX4_lawOf ({ frames := 2, cells := 0, slots := 0, locals := 42 } : Room) [.ref ((B 0) 0), .int x] (ow q B o ++ (hw q (B 1) h1 ++ (hw q (B 2) h2 ++ (hw q (B 3) h3 ++ (tw q (B 4) t ++ (sw q (B 5) g)))))) (fun (r : Int32) (u : Unit) => r = R_lawOf S x) (fun (_ : Unit) => (ow q B o ++ (hw q (B 1) h1 ++ (hw q (B 2) h2 ++ (hw q (B 3) h3 ++ (tw q (B 4) t ++ (sw q (B 5) g))))))) 0 0 := by
  refine MI.of RX4 [(0, .ref ((B 0) 0)), (1, .int x)] (by decide) rfl rfl (Nat.le_of_ble_eq_true rfl) rfl ?_
  intro p e s m args below meth c A C hr hnm
  have w_0 : ∀ w ∈ u_ws RX4 TX4 11, w ∈ wsX4_lawOf := by decide +kernel
  have w_1 : Cond.fieldLink RX4 10 (TX4 0).1 (TX4 0).2.1 (TX4 0).2.2.1 ∈ wsX4_lawOf := by decide +kernel
  have w_2 : ∀ w ∈ u_ws RX0 TX0 11, w ∈ wsX4_lawOf := by decide +kernel
  have w_3 : Cond.fieldLink RX4 98 (TX0 0).1 (TX0 0).2.1 (TX0 0).2.2.1 ∈ wsX4_lawOf := by decide +kernel
  have h8 := hG.le
  have hS0 := hG.n
  refine g_iloadn C dX4_lawOf_0 1 rfl rfl ?_
  refine g_call0i C (rd_S C (k_X4_isLaw l D q tt x ) gX4_lawOf_X4_isLaw rfl rfl rfl 1 ok_X4_isLaw (rest := []) rfl rfl (Nat.le_of_ble_eq_true rfl) dX4_lawOf_1 ⟨(Nat.le_of_ble_eq_true rfl), (Nat.le_of_ble_eq_true rfl)⟩ ⟨(Nat.le_of_ble_eq_true rfl), (Nat.le_of_ble_eq_true rfl)⟩) (fun _ => rfl) (fun r_1 _ h_1 => ?_)
  obtain rfl := h_1
  refine g_ifeqE C 19 dX4_lawOf_4 rfl rfl (fun c_4 => ?_) (fun c_4 => ?_)
  · refine g_iconst C (-1) dX4_lawOf_19 (by decide) ?_
    exact g_iret C () hr dX4_lawOf_20 (Nat.le_of_ble_eq_true rfl) (Nat.le_of_ble_eq_true rfl) rfl (by unfold R_lawOf; (try simp only [hS0]); (repeat' split) <;> first | (rw [ec]; done) | rfl | (exfalso; simp only [lg_lt0, lg_gt0, w_le, w_lt, Int32.lt_iff_toInt_lt, Int32.le_iff_toInt_le, ← Int32.toInt_inj, tI_0, tI_1, tI_2, tI_3, tI_4, tI_5, tI_6, tI_7, tI_8, tI_9, tI_10, tI_13, tI_19, tI_20, tI_30, tI_32, tI_40, tI_48, tI_57, tI_59, tI_60, tI_97, tI_99, tI_100, tI_122, tI_200, tI_m1, tI_m2, tI_m3, tI_39, not_and, not_or] at * <;> omega))
  · obtain ⟨j, hj, ej, ec⟩ := ix_le (n := 3) (by omega) c_4
    refine g_aloadn C dX4_lawOf_7 0 rfl rfl ?_
    refine g_get C fx4 w_0 0 0 (v := .ref ((B 1) 0)) rfl (by decide) w_1 rfl dX4_lawOf_8 ?_
    refine g_get C fx0 w_2 5 0 (v := .ref ((B 1) 1)) rfl (by decide) w_3 rfl dX4_lawOf_11 ?_
    refine g_iloadn C dX4_lawOf_14 1 rfl rfl ?_
    refine g_topci (nI j) (ej) ?_
    refine g_iald C 6 (j) (f := (hL h1)) rfl rfl (by omega) (by decide) dX4_lawOf_15 ?_
    refine g_topci (S (3 + j)) (rS.1 _ (by omega)) ?_
    refine g_goto C 20 dX4_lawOf_16 rfl ?_
    exact g_iret C () hr dX4_lawOf_20 (Nat.le_of_ble_eq_true rfl) (Nat.le_of_ble_eq_true rfl) rfl (by unfold R_lawOf; (try simp only [hS0]); (repeat' split) <;> first | (rw [ec]; done) | rfl | (exfalso; simp only [lg_lt0, lg_gt0, w_le, w_lt, Int32.lt_iff_toInt_lt, Int32.le_iff_toInt_le, ← Int32.toInt_inj, tI_0, tI_1, tI_2, tI_3, tI_4, tI_5, tI_6, tI_7, tI_8, tI_9, tI_10, tI_13, tI_19, tI_20, tI_30, tI_32, tI_40, tI_48, tI_57, tI_59, tI_60, tI_97, tI_99, tI_100, tI_122, tI_200, tI_m1, tI_m2, tI_m3, tI_39, not_and, not_or] at * <;> omega))

set_option maxRecDepth 100000 in
set_option maxHeartbeats 4000000 in
theorem k_X4_person (l : Launch) (D : va_G) (q : Nat → ClassId) (tt : Nat → Nat) (B : Nat → Nat → Nat) (o : OC) (h1 : HC) (h2 : HC) (h3 : HC) (t : TC) (g : GC) (S : Nat → Int32) (N : Nat) (x : Int32) (y : Int32) (z : Int32) (w : Int32) (hG : Gd S N) (rS : HR S N h1) : MI l D q tt yX4_person wsX4_person ({ frames := 2, cells := 0, slots := 0, locals := 47 } : Room) [.ref ((B 0) 0), .int x, .int y, .int z, .int w] (ow q B o ++ (hw q (B 1) h1 ++ (hw q (B 2) h2 ++ (hw q (B 3) h3 ++ (tw q (B 4) t ++ (sw q (B 5) g)))))) (fun (r : Int32) (u : HC) => r = R_person N x y z w ∧ ∃ N2, Gd (S_person S N x y z w) N2 ∧ HR (S_person S N x y z w) N2 u) (fun u => (ow q B o ++ (hw q (B 1) u ++ (hw q (B 2) h2 ++ (hw q (B 3) h3 ++ (tw q (B 4) t ++ (sw q (B 5) g))))))) 0 0 := by
  refine MI.of RX4 [(0, .ref ((B 0) 0)), (1, .int x), (2, .int y), (3, .int z), (4, .int w)] (by decide) rfl rfl (Nat.le_of_ble_eq_true rfl) rfl ?_
  intro p e s m args below meth c A C hr hnm
  have w_0 : ∀ w ∈ u_ws RX4 TX4 11, w ∈ wsX4_person := by decide +kernel
  have w_1 : Cond.fieldLink RX4 10 (TX4 0).1 (TX4 0).2.1 (TX4 0).2.2.1 ∈ wsX4_person := by decide +kernel
  have w_2 : ∀ w ∈ u_ws RX0 TX0 11, w ∈ wsX4_person := by decide +kernel
  have w_3 : Cond.fieldLink RX4 85 (TX0 5).1 (TX0 5).2.1 (TX0 5).2.2.1 ∈ wsX4_person := by decide +kernel
  have h8 := hG.le
  have hS0 := hG.n
  refine g_iloadn C dX4_person_0 1 rfl rfl ?_
  refine g_call0i C (rd_S C (k_X4_isKind l D q tt x ) gX4_person_X4_isKind rfl rfl rfl 1 ok_X4_isKind (rest := []) rfl rfl (Nat.le_of_ble_eq_true rfl) dX4_person_1 ⟨(Nat.le_of_ble_eq_true rfl), (Nat.le_of_ble_eq_true rfl)⟩ ⟨(Nat.le_of_ble_eq_true rfl), (Nat.le_of_ble_eq_true rfl)⟩) (fun _ => rfl) (fun r_1 _ h_1 => ?_)
  obtain rfl := h_1
  refine g_ifeqE C 29 dX4_person_4 rfl rfl (fun c_4 => ?_) (fun c_4 => ?_)
  · refine g_iconst C (-1) dX4_person_29 (by decide) ?_
    exact g_iret C h1 hr dX4_person_30 (Nat.le_of_ble_eq_true rfl) (Nat.le_of_ble_eq_true rfl) rfl (by unfold R_person S_person; (repeat' split) <;> first | exact ⟨rfl, N, hG, rS⟩ | (refine ⟨rfl, N + 1, ?_, hr_cm rS (by omega) rfl rfl rfl rfl rfl rfl rfl rfl rfl⟩; rw [ek, ej]; exact Gd_cm hG (by omega) hk hj) | (exfalso; simp only [lg_lt0, lg_gt0, w_le, w_lt, Int32.lt_iff_toInt_lt, Int32.le_iff_toInt_le, ← Int32.toInt_inj, tI_0, tI_1, tI_2, tI_3, tI_4, tI_5, tI_6, tI_7, tI_8, tI_9, tI_10, tI_13, tI_19, tI_20, tI_30, tI_32, tI_40, tI_48, tI_57, tI_59, tI_60, tI_97, tI_99, tI_100, tI_122, tI_200, tI_m1, tI_m2, tI_m3, tI_39, not_and, not_or] at * <;> omega))
  · refine g_iloadn C dX4_person_7 2 rfl rfl ?_
    refine g_call0i C (rd_S C (k_X4_isPride l D q tt y ) gX4_person_X4_isPride rfl rfl rfl 1 ok_X4_isPride (rest := []) rfl rfl (Nat.le_of_ble_eq_true rfl) dX4_person_8 ⟨(Nat.le_of_ble_eq_true rfl), (Nat.le_of_ble_eq_true rfl)⟩ ⟨(Nat.le_of_ble_eq_true rfl), (Nat.le_of_ble_eq_true rfl)⟩) (fun _ => rfl) (fun r_8 _ h_8 => ?_)
    obtain rfl := h_8
    refine g_ifeqE C 29 dX4_person_11 rfl rfl (fun c_11 => ?_) (fun c_11 => ?_)
    · refine g_iconst C (-1) dX4_person_29 (by decide) ?_
      exact g_iret C h1 hr dX4_person_30 (Nat.le_of_ble_eq_true rfl) (Nat.le_of_ble_eq_true rfl) rfl (by unfold R_person S_person; (repeat' split) <;> first | exact ⟨rfl, N, hG, rS⟩ | (refine ⟨rfl, N + 1, ?_, hr_cm rS (by omega) rfl rfl rfl rfl rfl rfl rfl rfl rfl⟩; rw [ek, ej]; exact Gd_cm hG (by omega) hk hj) | (exfalso; simp only [lg_lt0, lg_gt0, w_le, w_lt, Int32.lt_iff_toInt_lt, Int32.le_iff_toInt_le, ← Int32.toInt_inj, tI_0, tI_1, tI_2, tI_3, tI_4, tI_5, tI_6, tI_7, tI_8, tI_9, tI_10, tI_13, tI_19, tI_20, tI_30, tI_32, tI_40, tI_48, tI_57, tI_59, tI_60, tI_97, tI_99, tI_100, tI_122, tI_200, tI_m1, tI_m2, tI_m3, tI_39, not_and, not_or] at * <;> omega))
    · refine g_iloadn C dX4_person_14 3 rfl rfl ?_
      refine g_call0i C (rd_S C (k_X4_isEar l D q tt z ) gX4_person_X4_isEar rfl rfl rfl 1 ok_X4_isEar (rest := []) rfl rfl (Nat.le_of_ble_eq_true rfl) dX4_person_15 ⟨(Nat.le_of_ble_eq_true rfl), (Nat.le_of_ble_eq_true rfl)⟩ ⟨(Nat.le_of_ble_eq_true rfl), (Nat.le_of_ble_eq_true rfl)⟩) (fun _ => rfl) (fun r_15 _ h_15 => ?_)
      obtain rfl := h_15
      refine g_ifeqE C 29 dX4_person_18 rfl rfl (fun c_18 => ?_) (fun c_18 => ?_)
      · refine g_iconst C (-1) dX4_person_29 (by decide) ?_
        exact g_iret C h1 hr dX4_person_30 (Nat.le_of_ble_eq_true rfl) (Nat.le_of_ble_eq_true rfl) rfl (by unfold R_person S_person; (repeat' split) <;> first | exact ⟨rfl, N, hG, rS⟩ | (refine ⟨rfl, N + 1, ?_, hr_cm rS (by omega) rfl rfl rfl rfl rfl rfl rfl rfl rfl⟩; rw [ek, ej]; exact Gd_cm hG (by omega) hk hj) | (exfalso; simp only [lg_lt0, lg_gt0, w_le, w_lt, Int32.lt_iff_toInt_lt, Int32.le_iff_toInt_le, ← Int32.toInt_inj, tI_0, tI_1, tI_2, tI_3, tI_4, tI_5, tI_6, tI_7, tI_8, tI_9, tI_10, tI_13, tI_19, tI_20, tI_30, tI_32, tI_40, tI_48, tI_57, tI_59, tI_60, tI_97, tI_99, tI_100, tI_122, tI_200, tI_m1, tI_m2, tI_m3, tI_39, not_and, not_or] at * <;> omega))
      · refine g_iload C dX4_person_21 4 rfl ?_
        refine g_call0i C (rd_S C (k_X4_isRoom l D q tt w ) gX4_person_X4_isRoom rfl rfl rfl 1 ok_X4_isRoom (rest := []) rfl rfl (Nat.le_of_ble_eq_true rfl) dX4_person_23 ⟨(Nat.le_of_ble_eq_true rfl), (Nat.le_of_ble_eq_true rfl)⟩ ⟨(Nat.le_of_ble_eq_true rfl), (Nat.le_of_ble_eq_true rfl)⟩) (fun _ => rfl) (fun r_23 _ h_23 => ?_)
        obtain rfl := h_23
        refine g_ifneE C 31 dX4_person_26 rfl rfl (fun c_26 => ?_) (fun c_26 => ?_)
        · refine g_aloadn C dX4_person_31 0 rfl rfl ?_
          refine g_get C fx4 w_0 0 0 (v := .ref ((B 1) 0)) rfl (by decide) w_1 rfl dX4_person_32 ?_
          refine g_get C fx0 w_2 5 5 (v := .int (hN h1)) rfl (by decide) w_3 rfl dX4_person_35 ?_
          refine g_topci (nI N) (rS.n hG) ?_
          refine g_bipush C 8 dX4_person_38 (by decide) ?_
          refine g_icmpN_lt C 46 (N) (8) dX4_person_40 rfl (by omega) (by omega) (fun c_40 => ?_) (fun c_40 => ?_)
          · obtain ⟨k, hk, ek, -⟩ := ix_le (n := 5) (by omega) c_4
            obtain ⟨j, hj, ej, -⟩ := ix_le (n := 7) (by omega) c_26
            refine g_aloadn C dX4_person_46 0 rfl rfl ?_
            refine g_get C fx4 w_0 0 0 (v := .ref ((B 1) 0)) rfl (by decide) w_1 rfl dX4_person_47 ?_
            refine g_iloadn C dX4_person_50 1 rfl rfl ?_
            refine g_iloadn C dX4_person_51 2 rfl rfl ?_
            refine g_iloadn C dX4_person_52 3 rfl rfl ?_
            refine g_iload C dX4_person_53 4 rfl ?_
            refine g_iconst C 0 dX4_person_55 (by decide) ?_
            refine g_callWv (w1 := (ow q B o ++ (hw q (B 1) h1 ++ (hw q (B 2) h2 ++ (hw q (B 3) h3 ++ (tw q (B 4) t ++ (sw q (B 5) g))))))) (wr := ([0, 1, 2, 3, 4, 13, 14, 15, 16, 17, 18, 19, 20, 21, 22, 23, 24, 25, 26, 27, 28, 29, 30, 31, 32] : List Nat).filterMap (fun i => (ow q B o ++ (hw q (B 1) h1 ++ (hw q (B 2) h2 ++ (hw q (B 3) h3 ++ (tw q (B 4) t ++ (sw q (B 5) g))))))[i]?)) (isC := [5, 6, 7, 8, 9, 10, 11, 12]) (isR := [0, 1, 2, 3, 4, 13, 14, 15, 16, 17, 18, 19, 20, 21, 22, 23, 24, 25, 26, 27, 28, 29, 30, 31, 32]) (pm := [0, 1, 2, 3, 4, 25, 26, 27, 28, 29, 30, 31, 32, 5, 6, 7, 8, 9, 10, 11, 12, 13, 14, 15, 16, 17, 18, 19, 20, 21, 22, 23, 24]) (w1' := (fun _ => (ow q B o ++ (hw q (B 1) ((hL h1), (upd (hK h1) N x), (upd (hP h1) N y), (upd (hE h1) N z), (upd (hR h1) N w), (nI (N + 1)), (ltC (hC h1) (nI N) 0), (hM h1), (hZ h1), (hJ h1), (hH h1)) ++ (hw q (B 2) h2 ++ (hw q (B 3) h3 ++ (tw q (B 4) t ++ (sw q (B 5) g)))))))) C (rd_V C (k_X0_admit l D q tt (B 1) h1 N x y z w 0 (by omega) (rS.n hG)) gX4_person_X0_admit rfl rfl rfl 5 ok_X0_admit rfl 0 rfl rfl (rest := []) rfl rfl (Nat.le_of_ble_eq_true rfl) dX4_person_56 ⟨(Nat.le_of_ble_eq_true rfl), (Nat.le_of_ble_eq_true rfl)⟩ ⟨(Nat.le_of_ble_eq_true rfl), (Nat.le_of_ble_eq_true rfl)⟩) rfl rfl rfl (fun _ => rfl) rfl (fun _ h_56 => ?_)
            refine g_aloadn C dX4_person_59 0 rfl rfl ?_
            refine g_get C fx4 w_0 0 0 (v := .ref ((B 1) 0)) rfl (by decide) w_1 rfl dX4_person_60 ?_
            refine g_get C fx0 w_2 5 5 (v := .int (nI (N + 1))) rfl (by decide) w_3 rfl dX4_person_63 ?_
            refine g_iconst C 1 dX4_person_66 (by decide) ?_
            refine g_isub C dX4_person_67 ?_
            refine g_topci (nI N) (nI_pred N) ?_
            exact g_iret C ((hL h1), (upd (hK h1) N x), (upd (hP h1) N y), (upd (hE h1) N z), (upd (hR h1) N w), (nI (N + 1)), (ltC (hC h1) (nI N) 0), (hM h1), (hZ h1), (hJ h1), (hH h1)) hr dX4_person_68 (Nat.le_of_ble_eq_true rfl) (Nat.le_of_ble_eq_true rfl) rfl (by unfold R_person S_person; (repeat' split) <;> first | exact ⟨rfl, N, hG, rS⟩ | (refine ⟨rfl, N + 1, ?_, hr_cm rS (by omega) rfl rfl rfl rfl rfl rfl rfl rfl rfl⟩; rw [ek, ej]; exact Gd_cm hG (by omega) hk hj) | (exfalso; simp only [lg_lt0, lg_gt0, w_le, w_lt, Int32.lt_iff_toInt_lt, Int32.le_iff_toInt_le, ← Int32.toInt_inj, tI_0, tI_1, tI_2, tI_3, tI_4, tI_5, tI_6, tI_7, tI_8, tI_9, tI_10, tI_13, tI_19, tI_20, tI_30, tI_32, tI_40, tI_48, tI_57, tI_59, tI_60, tI_97, tI_99, tI_100, tI_122, tI_200, tI_m1, tI_m2, tI_m3, tI_39, not_and, not_or] at * <;> omega))
          · refine g_bipush C (-2) dX4_person_43 (by decide) ?_
            exact g_iret C h1 hr dX4_person_45 (Nat.le_of_ble_eq_true rfl) (Nat.le_of_ble_eq_true rfl) rfl (by unfold R_person S_person; (repeat' split) <;> first | exact ⟨rfl, N, hG, rS⟩ | (refine ⟨rfl, N + 1, ?_, hr_cm rS (by omega) rfl rfl rfl rfl rfl rfl rfl rfl rfl⟩; rw [ek, ej]; exact Gd_cm hG (by omega) hk hj) | (exfalso; simp only [lg_lt0, lg_gt0, w_le, w_lt, Int32.lt_iff_toInt_lt, Int32.le_iff_toInt_le, ← Int32.toInt_inj, tI_0, tI_1, tI_2, tI_3, tI_4, tI_5, tI_6, tI_7, tI_8, tI_9, tI_10, tI_13, tI_19, tI_20, tI_30, tI_32, tI_40, tI_48, tI_57, tI_59, tI_60, tI_97, tI_99, tI_100, tI_122, tI_200, tI_m1, tI_m2, tI_m3, tI_39, not_and, not_or] at * <;> omega))
        · refine g_iconst C (-1) dX4_person_29 (by decide) ?_
          exact g_iret C h1 hr dX4_person_30 (Nat.le_of_ble_eq_true rfl) (Nat.le_of_ble_eq_true rfl) rfl (by unfold R_person S_person; (repeat' split) <;> first | exact ⟨rfl, N, hG, rS⟩ | (refine ⟨rfl, N + 1, ?_, hr_cm rS (by omega) rfl rfl rfl rfl rfl rfl rfl rfl rfl⟩; rw [ek, ej]; exact Gd_cm hG (by omega) hk hj) | (exfalso; simp only [lg_lt0, lg_gt0, w_le, w_lt, Int32.lt_iff_toInt_lt, Int32.le_iff_toInt_le, ← Int32.toInt_inj, tI_0, tI_1, tI_2, tI_3, tI_4, tI_5, tI_6, tI_7, tI_8, tI_9, tI_10, tI_13, tI_19, tI_20, tI_30, tI_32, tI_40, tI_48, tI_57, tI_59, tI_60, tI_97, tI_99, tI_100, tI_122, tI_200, tI_m1, tI_m2, tI_m3, tI_39, not_and, not_or] at * <;> omega))

set_option maxRecDepth 100000 in
set_option maxHeartbeats 4000000 in
theorem k_X4_pride (l : Launch) (D : va_G) (q : Nat → ClassId) (tt : Nat → Nat) (B : Nat → Nat → Nat) (o : OC) (h1 : HC) (h2 : HC) (h3 : HC) (t : TC) (g : GC) (S : Nat → Int32) (N : Nat) (x : Int32) (y : Int32) (hG : Gd S N) (rS : HR S N h1) : MI l D q tt yX4_pride wsX4_pride ({ frames := 2, cells := 0, slots := 0, locals := 43 } : Room) [.ref ((B 0) 0), .int x, .int y] (ow q B o ++ (hw q (B 1) h1 ++ (hw q (B 2) h2 ++ (hw q (B 3) h3 ++ (tw q (B 4) t ++ (sw q (B 5) g)))))) (fun (r : Int32) (u : HC) => r = R_pride S x y ∧ ∃ N2, Gd (S_pride S x y) N2 ∧ HR (S_pride S x y) N2 u) (fun u => (ow q B o ++ (hw q (B 1) u ++ (hw q (B 2) h2 ++ (hw q (B 3) h3 ++ (tw q (B 4) t ++ (sw q (B 5) g))))))) 0 0 := by
  refine MI.of RX4 [(0, .ref ((B 0) 0)), (1, .int x), (2, .int y)] (by decide) rfl rfl (Nat.le_of_ble_eq_true rfl) rfl ?_
  intro p e s m args below meth c A C hr hnm
  have w_0 : ∀ w ∈ u_ws RX4 TX4 11, w ∈ wsX4_pride := by decide +kernel
  have w_1 : Cond.fieldLink RX4 10 (TX4 0).1 (TX4 0).2.1 (TX4 0).2.2.1 ∈ wsX4_pride := by decide +kernel
  have w_2 : ∀ w ∈ u_ws RX0 TX0 11, w ∈ wsX4_pride := by decide +kernel
  have w_3 : Cond.fieldLink RX4 123 (TX0 2).1 (TX0 2).2.1 (TX0 2).2.2.1 ∈ wsX4_pride := by decide +kernel
  have h8 := hG.le
  have hS0 := hG.n
  refine g_aloadn C dX4_pride_0 0 rfl rfl ?_
  refine g_get C fx4 w_0 0 0 (v := .ref ((B 1) 0)) rfl (by decide) w_1 rfl dX4_pride_1 ?_
  refine g_iloadn C dX4_pride_4 1 rfl rfl ?_
  refine g_callWi (w1 := (ow q B o ++ (hw q (B 1) h1 ++ (hw q (B 2) h2 ++ (hw q (B 3) h3 ++ (tw q (B 4) t ++ (sw q (B 5) g))))))) (wr := ([0, 1, 2, 3, 4, 13, 14, 15, 16, 17, 18, 19, 20, 21, 22, 23, 24, 25, 26, 27, 28, 29, 30, 31, 32] : List Nat).filterMap (fun i => (ow q B o ++ (hw q (B 1) h1 ++ (hw q (B 2) h2 ++ (hw q (B 3) h3 ++ (tw q (B 4) t ++ (sw q (B 5) g))))))[i]?)) (isC := [5, 6, 7, 8, 9, 10, 11, 12]) (isR := [0, 1, 2, 3, 4, 13, 14, 15, 16, 17, 18, 19, 20, 21, 22, 23, 24, 25, 26, 27, 28, 29, 30, 31, 32]) (pm := [0, 1, 2, 3, 4, 25, 26, 27, 28, 29, 30, 31, 32, 5, 6, 7, 8, 9, 10, 11, 12, 13, 14, 15, 16, 17, 18, 19, 20, 21, 22, 23, 24]) (w1' := (fun _ => (ow q B o ++ (hw q (B 1) h1 ++ (hw q (B 2) h2 ++ (hw q (B 3) h3 ++ (tw q (B 4) t ++ (sw q (B 5) g)))))))) C (rd_V C (k_X0_has l D q tt (B 1) h1 S N x (by first | assumption | omega) (by first | assumption | omega)) gX4_pride_X0_has rfl rfl rfl 1 ok_X0_has rfl 0 rfl rfl (rest := []) rfl rfl (Nat.le_of_ble_eq_true rfl) dX4_pride_5 ⟨(Nat.le_of_ble_eq_true rfl), (Nat.le_of_ble_eq_true rfl)⟩ ⟨(Nat.le_of_ble_eq_true rfl), (Nat.le_of_ble_eq_true rfl)⟩) rfl rfl rfl (fun _ => rfl) rfl (fun r_5 _ h_5 => ?_)
  obtain rfl := h_5
  refine g_ifeqE C 18 dX4_pride_8 rfl rfl (fun c_8 => ?_) (fun c_8 => ?_)
  · refine g_iconst C (-1) dX4_pride_18 (by decide) ?_
    exact g_iret C h1 hr dX4_pride_19 (Nat.le_of_ble_eq_true rfl) (Nat.le_of_ble_eq_true rfl) rfl (by unfold R_pride S_pride; (try simp only [hS0]); (repeat' split) <;> first | (rw [ec]; exact ⟨rfl, N, hG.w1, hr_p rS (by omega)⟩) | exact ⟨rfl, N, hG, rS⟩ | (exfalso; simp only [lg_lt0, lg_gt0, w_le, w_lt, Int32.lt_iff_toInt_lt, Int32.le_iff_toInt_le, ← Int32.toInt_inj, tI_0, tI_1, tI_2, tI_3, tI_4, tI_5, tI_6, tI_7, tI_8, tI_9, tI_10, tI_13, tI_19, tI_20, tI_30, tI_32, tI_40, tI_48, tI_57, tI_59, tI_60, tI_97, tI_99, tI_100, tI_122, tI_200, tI_m1, tI_m2, tI_m3, tI_39, not_and, not_or] at * <;> omega))
  · refine g_iloadn C dX4_pride_11 2 rfl rfl ?_
    refine g_call0i C (rd_S C (k_X4_isPride l D q tt y ) gX4_pride_X4_isPride rfl rfl rfl 1 ok_X4_isPride (rest := []) rfl rfl (Nat.le_of_ble_eq_true rfl) dX4_pride_12 ⟨(Nat.le_of_ble_eq_true rfl), (Nat.le_of_ble_eq_true rfl)⟩ ⟨(Nat.le_of_ble_eq_true rfl), (Nat.le_of_ble_eq_true rfl)⟩) (fun _ => rfl) (fun r_12 _ h_12 => ?_)
    obtain rfl := h_12
    refine g_ifneE C 20 dX4_pride_15 rfl rfl (fun c_15 => ?_) (fun c_15 => ?_)
    · obtain ⟨j, hj, ej, ec⟩ := ix_lt (by omega) c_8
      refine g_aloadn C dX4_pride_20 0 rfl rfl ?_
      refine g_get C fx4 w_0 0 0 (v := .ref ((B 1) 0)) rfl (by decide) w_1 rfl dX4_pride_21 ?_
      refine g_get C fx0 w_2 5 2 (v := .ref ((B 1) 3)) rfl (by decide) w_3 rfl dX4_pride_24 ?_
      refine g_iloadn C dX4_pride_27 1 rfl rfl ?_
      refine g_topci (nI j) (ej) ?_
      refine g_iald C 8 (j) (f := (hP h1)) rfl rfl (by omega) (by decide) dX4_pride_28 ?_
      refine g_topci (sP S j) (rS.P (by omega)) ?_
      refine g_istoren C [(3, .int (sP S j)), (0, .ref ((B 0) 0)), (1, .int x), (2, .int y)] dX4_pride_29 rfl (by decide) rfl ?_
      refine g_aloadn C dX4_pride_30 1 rfl rfl ?_
      refine g_get C fx4 w_0 0 0 (v := .ref ((B 1) 0)) rfl (by decide) w_1 rfl dX4_pride_31 ?_
      refine g_get C fx0 w_2 5 2 (v := .ref ((B 1) 3)) rfl (by decide) w_3 rfl dX4_pride_34 ?_
      refine g_iloadn C dX4_pride_37 2 rfl rfl ?_
      refine g_topci (nI j) (ej) ?_
      refine g_iloadn C dX4_pride_38 3 rfl rfl ?_
      refine g_iast C 8 (j) (f := (hP h1)) rfl rfl (by omega) (by decide) dX4_pride_39 (ow q B o ++ (hw q (B 1) ((hL h1), (hK h1), (upd (hP h1) j y), (hE h1), (hR h1), (hN h1), (hC h1), (hM h1), (hZ h1), (hJ h1), (hH h1)) ++ (hw q (B 2) h2 ++ (hw q (B 3) h3 ++ (tw q (B 4) t ++ (sw q (B 5) g)))))) rfl ?_
      refine g_iloadn C dX4_pride_40 0 rfl rfl ?_
      exact g_iret C ((hL h1), (hK h1), (upd (hP h1) j y), (hE h1), (hR h1), (hN h1), (hC h1), (hM h1), (hZ h1), (hJ h1), (hH h1)) hr dX4_pride_41 (Nat.le_of_ble_eq_true rfl) (Nat.le_of_ble_eq_true rfl) rfl (by unfold R_pride S_pride; (try simp only [hS0]); (repeat' split) <;> first | (rw [ec]; exact ⟨rfl, N, hG.w1, hr_p rS (by omega)⟩) | exact ⟨rfl, N, hG, rS⟩ | (exfalso; simp only [lg_lt0, lg_gt0, w_le, w_lt, Int32.lt_iff_toInt_lt, Int32.le_iff_toInt_le, ← Int32.toInt_inj, tI_0, tI_1, tI_2, tI_3, tI_4, tI_5, tI_6, tI_7, tI_8, tI_9, tI_10, tI_13, tI_19, tI_20, tI_30, tI_32, tI_40, tI_48, tI_57, tI_59, tI_60, tI_97, tI_99, tI_100, tI_122, tI_200, tI_m1, tI_m2, tI_m3, tI_39, not_and, not_or] at * <;> omega))
    · refine g_iconst C (-1) dX4_pride_18 (by decide) ?_
      exact g_iret C h1 hr dX4_pride_19 (Nat.le_of_ble_eq_true rfl) (Nat.le_of_ble_eq_true rfl) rfl (by unfold R_pride S_pride; (try simp only [hS0]); (repeat' split) <;> first | (rw [ec]; exact ⟨rfl, N, hG.w1, hr_p rS (by omega)⟩) | exact ⟨rfl, N, hG, rS⟩ | (exfalso; simp only [lg_lt0, lg_gt0, w_le, w_lt, Int32.lt_iff_toInt_lt, Int32.le_iff_toInt_le, ← Int32.toInt_inj, tI_0, tI_1, tI_2, tI_3, tI_4, tI_5, tI_6, tI_7, tI_8, tI_9, tI_10, tI_13, tI_19, tI_20, tI_30, tI_32, tI_40, tI_48, tI_57, tI_59, tI_60, tI_97, tI_99, tI_100, tI_122, tI_200, tI_m1, tI_m2, tI_m3, tI_39, not_and, not_or] at * <;> omega))

set_option maxRecDepth 100000 in
set_option maxHeartbeats 4000000 in
theorem k_X4_move (l : Launch) (D : va_G) (q : Nat → ClassId) (tt : Nat → Nat) (B : Nat → Nat → Nat) (o : OC) (h1 : HC) (h2 : HC) (h3 : HC) (t : TC) (g : GC) (S : Nat → Int32) (N : Nat) (x : Int32) (y : Int32) (hG : Gd S N) (rS : HR S N h1) : MI l D q tt yX4_move wsX4_move ({ frames := 2, cells := 0, slots := 0, locals := 43 } : Room) [.ref ((B 0) 0), .int x, .int y] (ow q B o ++ (hw q (B 1) h1 ++ (hw q (B 2) h2 ++ (hw q (B 3) h3 ++ (tw q (B 4) t ++ (sw q (B 5) g)))))) (fun (r : Int32) (u : HC) => r = R_move S x y ∧ ∃ N2, Gd (S_move S x y) N2 ∧ HR (S_move S x y) N2 u) (fun u => (ow q B o ++ (hw q (B 1) u ++ (hw q (B 2) h2 ++ (hw q (B 3) h3 ++ (tw q (B 4) t ++ (sw q (B 5) g))))))) 0 0 := by
  refine MI.of RX4 [(0, .ref ((B 0) 0)), (1, .int x), (2, .int y)] (by decide) rfl rfl (Nat.le_of_ble_eq_true rfl) rfl ?_
  intro p e s m args below meth c A C hr hnm
  have w_0 : ∀ w ∈ u_ws RX4 TX4 11, w ∈ wsX4_move := by decide +kernel
  have w_1 : Cond.fieldLink RX4 10 (TX4 0).1 (TX4 0).2.1 (TX4 0).2.2.1 ∈ wsX4_move := by decide +kernel
  have w_2 : ∀ w ∈ u_ws RX0 TX0 11, w ∈ wsX4_move := by decide +kernel
  have w_3 : Cond.fieldLink RX4 129 (TX0 4).1 (TX0 4).2.1 (TX0 4).2.2.1 ∈ wsX4_move := by decide +kernel
  have h8 := hG.le
  have hS0 := hG.n
  refine g_aloadn C dX4_move_0 0 rfl rfl ?_
  refine g_get C fx4 w_0 0 0 (v := .ref ((B 1) 0)) rfl (by decide) w_1 rfl dX4_move_1 ?_
  refine g_iloadn C dX4_move_4 1 rfl rfl ?_
  refine g_callWi (w1 := (ow q B o ++ (hw q (B 1) h1 ++ (hw q (B 2) h2 ++ (hw q (B 3) h3 ++ (tw q (B 4) t ++ (sw q (B 5) g))))))) (wr := ([0, 1, 2, 3, 4, 13, 14, 15, 16, 17, 18, 19, 20, 21, 22, 23, 24, 25, 26, 27, 28, 29, 30, 31, 32] : List Nat).filterMap (fun i => (ow q B o ++ (hw q (B 1) h1 ++ (hw q (B 2) h2 ++ (hw q (B 3) h3 ++ (tw q (B 4) t ++ (sw q (B 5) g))))))[i]?)) (isC := [5, 6, 7, 8, 9, 10, 11, 12]) (isR := [0, 1, 2, 3, 4, 13, 14, 15, 16, 17, 18, 19, 20, 21, 22, 23, 24, 25, 26, 27, 28, 29, 30, 31, 32]) (pm := [0, 1, 2, 3, 4, 25, 26, 27, 28, 29, 30, 31, 32, 5, 6, 7, 8, 9, 10, 11, 12, 13, 14, 15, 16, 17, 18, 19, 20, 21, 22, 23, 24]) (w1' := (fun _ => (ow q B o ++ (hw q (B 1) h1 ++ (hw q (B 2) h2 ++ (hw q (B 3) h3 ++ (tw q (B 4) t ++ (sw q (B 5) g)))))))) C (rd_V C (k_X0_has l D q tt (B 1) h1 S N x (by first | assumption | omega) (by first | assumption | omega)) gX4_move_X0_has rfl rfl rfl 1 ok_X0_has rfl 0 rfl rfl (rest := []) rfl rfl (Nat.le_of_ble_eq_true rfl) dX4_move_5 ⟨(Nat.le_of_ble_eq_true rfl), (Nat.le_of_ble_eq_true rfl)⟩ ⟨(Nat.le_of_ble_eq_true rfl), (Nat.le_of_ble_eq_true rfl)⟩) rfl rfl rfl (fun _ => rfl) rfl (fun r_5 _ h_5 => ?_)
  obtain rfl := h_5
  refine g_ifeqE C 18 dX4_move_8 rfl rfl (fun c_8 => ?_) (fun c_8 => ?_)
  · refine g_iconst C (-1) dX4_move_18 (by decide) ?_
    exact g_iret C h1 hr dX4_move_19 (Nat.le_of_ble_eq_true rfl) (Nat.le_of_ble_eq_true rfl) rfl (by unfold R_move S_move; (try simp only [hS0]); (repeat' split) <;> first | (rw [ec]; exact ⟨rfl, N, by rw [ei]; exact hG.w3 hi, hr_r rS (by omega)⟩) | exact ⟨rfl, N, hG, rS⟩ | (exfalso; simp only [lg_lt0, lg_gt0, w_le, w_lt, Int32.lt_iff_toInt_lt, Int32.le_iff_toInt_le, ← Int32.toInt_inj, tI_0, tI_1, tI_2, tI_3, tI_4, tI_5, tI_6, tI_7, tI_8, tI_9, tI_10, tI_13, tI_19, tI_20, tI_30, tI_32, tI_40, tI_48, tI_57, tI_59, tI_60, tI_97, tI_99, tI_100, tI_122, tI_200, tI_m1, tI_m2, tI_m3, tI_39, not_and, not_or] at * <;> omega))
  · refine g_iloadn C dX4_move_11 2 rfl rfl ?_
    refine g_call0i C (rd_S C (k_X4_isRoom l D q tt y ) gX4_move_X4_isRoom rfl rfl rfl 1 ok_X4_isRoom (rest := []) rfl rfl (Nat.le_of_ble_eq_true rfl) dX4_move_12 ⟨(Nat.le_of_ble_eq_true rfl), (Nat.le_of_ble_eq_true rfl)⟩ ⟨(Nat.le_of_ble_eq_true rfl), (Nat.le_of_ble_eq_true rfl)⟩) (fun _ => rfl) (fun r_12 _ h_12 => ?_)
    obtain rfl := h_12
    refine g_ifneE C 20 dX4_move_15 rfl rfl (fun c_15 => ?_) (fun c_15 => ?_)
    · obtain ⟨j, hj, ej, ec⟩ := ix_lt (by omega) c_8
      obtain ⟨i, hi, ei, -⟩ := ix_le (n := 7) (by omega) c_15
      refine g_aloadn C dX4_move_20 0 rfl rfl ?_
      refine g_get C fx4 w_0 0 0 (v := .ref ((B 1) 0)) rfl (by decide) w_1 rfl dX4_move_21 ?_
      refine g_get C fx0 w_2 5 4 (v := .ref ((B 1) 5)) rfl (by decide) w_3 rfl dX4_move_24 ?_
      refine g_iloadn C dX4_move_27 1 rfl rfl ?_
      refine g_topci (nI j) (ej) ?_
      refine g_iald C 10 (j) (f := (hR h1)) rfl rfl (by omega) (by decide) dX4_move_28 ?_
      refine g_topci (sR S j) (rS.R (by omega)) ?_
      refine g_istoren C [(3, .int (sR S j)), (0, .ref ((B 0) 0)), (1, .int x), (2, .int y)] dX4_move_29 rfl (by decide) rfl ?_
      refine g_aloadn C dX4_move_30 1 rfl rfl ?_
      refine g_get C fx4 w_0 0 0 (v := .ref ((B 1) 0)) rfl (by decide) w_1 rfl dX4_move_31 ?_
      refine g_get C fx0 w_2 5 4 (v := .ref ((B 1) 5)) rfl (by decide) w_3 rfl dX4_move_34 ?_
      refine g_iloadn C dX4_move_37 2 rfl rfl ?_
      refine g_topci (nI j) (ej) ?_
      refine g_iloadn C dX4_move_38 3 rfl rfl ?_
      refine g_iast C 10 (j) (f := (hR h1)) rfl rfl (by omega) (by decide) dX4_move_39 (ow q B o ++ (hw q (B 1) ((hL h1), (hK h1), (hP h1), (hE h1), (upd (hR h1) j y), (hN h1), (hC h1), (hM h1), (hZ h1), (hJ h1), (hH h1)) ++ (hw q (B 2) h2 ++ (hw q (B 3) h3 ++ (tw q (B 4) t ++ (sw q (B 5) g)))))) rfl ?_
      refine g_iloadn C dX4_move_40 0 rfl rfl ?_
      exact g_iret C ((hL h1), (hK h1), (hP h1), (hE h1), (upd (hR h1) j y), (hN h1), (hC h1), (hM h1), (hZ h1), (hJ h1), (hH h1)) hr dX4_move_41 (Nat.le_of_ble_eq_true rfl) (Nat.le_of_ble_eq_true rfl) rfl (by unfold R_move S_move; (try simp only [hS0]); (repeat' split) <;> first | (rw [ec]; exact ⟨rfl, N, by rw [ei]; exact hG.w3 hi, hr_r rS (by omega)⟩) | exact ⟨rfl, N, hG, rS⟩ | (exfalso; simp only [lg_lt0, lg_gt0, w_le, w_lt, Int32.lt_iff_toInt_lt, Int32.le_iff_toInt_le, ← Int32.toInt_inj, tI_0, tI_1, tI_2, tI_3, tI_4, tI_5, tI_6, tI_7, tI_8, tI_9, tI_10, tI_13, tI_19, tI_20, tI_30, tI_32, tI_40, tI_48, tI_57, tI_59, tI_60, tI_97, tI_99, tI_100, tI_122, tI_200, tI_m1, tI_m2, tI_m3, tI_39, not_and, not_or] at * <;> omega))
    · refine g_iconst C (-1) dX4_move_18 (by decide) ?_
      exact g_iret C h1 hr dX4_move_19 (Nat.le_of_ble_eq_true rfl) (Nat.le_of_ble_eq_true rfl) rfl (by unfold R_move S_move; (try simp only [hS0]); (repeat' split) <;> first | (rw [ec]; exact ⟨rfl, N, by rw [ei]; exact hG.w3 hi, hr_r rS (by omega)⟩) | exact ⟨rfl, N, hG, rS⟩ | (exfalso; simp only [lg_lt0, lg_gt0, w_le, w_lt, Int32.lt_iff_toInt_lt, Int32.le_iff_toInt_le, ← Int32.toInt_inj, tI_0, tI_1, tI_2, tI_3, tI_4, tI_5, tI_6, tI_7, tI_8, tI_9, tI_10, tI_13, tI_19, tI_20, tI_30, tI_32, tI_40, tI_48, tI_57, tI_59, tI_60, tI_97, tI_99, tI_100, tI_122, tI_200, tI_m1, tI_m2, tI_m3, tI_39, not_and, not_or] at * <;> omega))

set_option maxRecDepth 100000 in
set_option maxHeartbeats 4000000 in
theorem k_X4_mind (l : Launch) (D : va_G) (q : Nat → ClassId) (tt : Nat → Nat) (B : Nat → Nat → Nat) (o : OC) (h1 : HC) (h2 : HC) (h3 : HC) (t : TC) (g : GC) (S : Nat → Int32) (N : Nat) (x : Int32) (y : Int32) (z : Int32) (hG : Gd S N) (rS : HR S N h1) : MI l D q tt yX4_mind wsX4_mind ({ frames := 2, cells := 0, slots := 0, locals := 43 } : Room) [.ref ((B 0) 0), .int x, .int y, .int z] (ow q B o ++ (hw q (B 1) h1 ++ (hw q (B 2) h2 ++ (hw q (B 3) h3 ++ (tw q (B 4) t ++ (sw q (B 5) g)))))) (fun (r : Int32) (u : HC) => r = R_mind S x y z ∧ ∃ N2, Gd (S_mind S x y z) N2 ∧ HR (S_mind S x y z) N2 u) (fun u => (ow q B o ++ (hw q (B 1) u ++ (hw q (B 2) h2 ++ (hw q (B 3) h3 ++ (tw q (B 4) t ++ (sw q (B 5) g))))))) 0 0 := by
  refine MI.of RX4 [(0, .ref ((B 0) 0)), (1, .int x), (2, .int y), (3, .int z)] (by decide) rfl rfl (Nat.le_of_ble_eq_true rfl) rfl ?_
  intro p e s m args below meth c A C hr hnm
  have w_0 : ∀ w ∈ u_ws RX4 TX4 11, w ∈ wsX4_mind := by decide +kernel
  have w_1 : Cond.fieldLink RX4 10 (TX4 0).1 (TX4 0).2.1 (TX4 0).2.2.1 ∈ wsX4_mind := by decide +kernel
  have w_2 : ∀ w ∈ u_ws RX0 TX0 11, w ∈ wsX4_mind := by decide +kernel
  have w_3 : Cond.fieldLink RX4 120 (TX0 1).1 (TX0 1).2.1 (TX0 1).2.2.1 ∈ wsX4_mind := by decide +kernel
  have w_4 : Cond.fieldLink RX4 126 (TX0 3).1 (TX0 3).2.1 (TX0 3).2.2.1 ∈ wsX4_mind := by decide +kernel
  have h8 := hG.le
  have hS0 := hG.n
  refine g_aloadn C dX4_mind_0 0 rfl rfl ?_
  refine g_get C fx4 w_0 0 0 (v := .ref ((B 1) 0)) rfl (by decide) w_1 rfl dX4_mind_1 ?_
  refine g_iloadn C dX4_mind_4 1 rfl rfl ?_
  refine g_callWi (w1 := (ow q B o ++ (hw q (B 1) h1 ++ (hw q (B 2) h2 ++ (hw q (B 3) h3 ++ (tw q (B 4) t ++ (sw q (B 5) g))))))) (wr := ([0, 1, 2, 3, 4, 13, 14, 15, 16, 17, 18, 19, 20, 21, 22, 23, 24, 25, 26, 27, 28, 29, 30, 31, 32] : List Nat).filterMap (fun i => (ow q B o ++ (hw q (B 1) h1 ++ (hw q (B 2) h2 ++ (hw q (B 3) h3 ++ (tw q (B 4) t ++ (sw q (B 5) g))))))[i]?)) (isC := [5, 6, 7, 8, 9, 10, 11, 12]) (isR := [0, 1, 2, 3, 4, 13, 14, 15, 16, 17, 18, 19, 20, 21, 22, 23, 24, 25, 26, 27, 28, 29, 30, 31, 32]) (pm := [0, 1, 2, 3, 4, 25, 26, 27, 28, 29, 30, 31, 32, 5, 6, 7, 8, 9, 10, 11, 12, 13, 14, 15, 16, 17, 18, 19, 20, 21, 22, 23, 24]) (w1' := (fun _ => (ow q B o ++ (hw q (B 1) h1 ++ (hw q (B 2) h2 ++ (hw q (B 3) h3 ++ (tw q (B 4) t ++ (sw q (B 5) g)))))))) C (rd_V C (k_X0_has l D q tt (B 1) h1 S N x (by first | assumption | omega) (by first | assumption | omega)) gX4_mind_X0_has rfl rfl rfl 1 ok_X0_has rfl 0 rfl rfl (rest := []) rfl rfl (Nat.le_of_ble_eq_true rfl) dX4_mind_5 ⟨(Nat.le_of_ble_eq_true rfl), (Nat.le_of_ble_eq_true rfl)⟩ ⟨(Nat.le_of_ble_eq_true rfl), (Nat.le_of_ble_eq_true rfl)⟩) rfl rfl rfl (fun _ => rfl) rfl (fun r_5 _ h_5 => ?_)
  obtain rfl := h_5
  refine g_ifeqE C 25 dX4_mind_8 rfl rfl (fun c_8 => ?_) (fun c_8 => ?_)
  · refine g_iconst C (-1) dX4_mind_25 (by decide) ?_
    exact g_iret C h1 hr dX4_mind_26 (Nat.le_of_ble_eq_true rfl) (Nat.le_of_ble_eq_true rfl) rfl (by unfold R_mind S_mind; (try simp only [hS0]); (repeat' split) <;> first | (rw [ec]; exact ⟨rfl, N, by rw [ei]; exact hG.w2.w0 hi, hr_k (hr_e rS (by omega)) (by omega)⟩) | exact ⟨rfl, N, hG, rS⟩ | (exfalso; simp only [lg_lt0, lg_gt0, w_le, w_lt, Int32.lt_iff_toInt_lt, Int32.le_iff_toInt_le, ← Int32.toInt_inj, tI_0, tI_1, tI_2, tI_3, tI_4, tI_5, tI_6, tI_7, tI_8, tI_9, tI_10, tI_13, tI_19, tI_20, tI_30, tI_32, tI_40, tI_48, tI_57, tI_59, tI_60, tI_97, tI_99, tI_100, tI_122, tI_200, tI_m1, tI_m2, tI_m3, tI_39, not_and, not_or] at * <;> omega))
  · refine g_iloadn C dX4_mind_11 2 rfl rfl ?_
    refine g_call0i C (rd_S C (k_X4_isKind l D q tt y ) gX4_mind_X4_isKind rfl rfl rfl 1 ok_X4_isKind (rest := []) rfl rfl (Nat.le_of_ble_eq_true rfl) dX4_mind_12 ⟨(Nat.le_of_ble_eq_true rfl), (Nat.le_of_ble_eq_true rfl)⟩ ⟨(Nat.le_of_ble_eq_true rfl), (Nat.le_of_ble_eq_true rfl)⟩) (fun _ => rfl) (fun r_12 _ h_12 => ?_)
    obtain rfl := h_12
    refine g_ifeqE C 25 dX4_mind_15 rfl rfl (fun c_15 => ?_) (fun c_15 => ?_)
    · refine g_iconst C (-1) dX4_mind_25 (by decide) ?_
      exact g_iret C h1 hr dX4_mind_26 (Nat.le_of_ble_eq_true rfl) (Nat.le_of_ble_eq_true rfl) rfl (by unfold R_mind S_mind; (try simp only [hS0]); (repeat' split) <;> first | (rw [ec]; exact ⟨rfl, N, by rw [ei]; exact hG.w2.w0 hi, hr_k (hr_e rS (by omega)) (by omega)⟩) | exact ⟨rfl, N, hG, rS⟩ | (exfalso; simp only [lg_lt0, lg_gt0, w_le, w_lt, Int32.lt_iff_toInt_lt, Int32.le_iff_toInt_le, ← Int32.toInt_inj, tI_0, tI_1, tI_2, tI_3, tI_4, tI_5, tI_6, tI_7, tI_8, tI_9, tI_10, tI_13, tI_19, tI_20, tI_30, tI_32, tI_40, tI_48, tI_57, tI_59, tI_60, tI_97, tI_99, tI_100, tI_122, tI_200, tI_m1, tI_m2, tI_m3, tI_39, not_and, not_or] at * <;> omega))
    · refine g_iloadn C dX4_mind_18 3 rfl rfl ?_
      refine g_call0i C (rd_S C (k_X4_isEar l D q tt z ) gX4_mind_X4_isEar rfl rfl rfl 1 ok_X4_isEar (rest := []) rfl rfl (Nat.le_of_ble_eq_true rfl) dX4_mind_19 ⟨(Nat.le_of_ble_eq_true rfl), (Nat.le_of_ble_eq_true rfl)⟩ ⟨(Nat.le_of_ble_eq_true rfl), (Nat.le_of_ble_eq_true rfl)⟩) (fun _ => rfl) (fun r_19 _ h_19 => ?_)
      obtain rfl := h_19
      refine g_ifneE C 27 dX4_mind_22 rfl rfl (fun c_22 => ?_) (fun c_22 => ?_)
      · obtain ⟨j, hj, ej, ec⟩ := ix_lt (by omega) c_8
        obtain ⟨i, hi, ei, -⟩ := ix_le (n := 5) (by omega) c_15
        refine g_aloadn C dX4_mind_27 0 rfl rfl ?_
        refine g_get C fx4 w_0 0 0 (v := .ref ((B 1) 0)) rfl (by decide) w_1 rfl dX4_mind_28 ?_
        refine g_get C fx0 w_2 5 1 (v := .ref ((B 1) 2)) rfl (by decide) w_3 rfl dX4_mind_31 ?_
        refine g_iloadn C dX4_mind_34 1 rfl rfl ?_
        refine g_topci (nI j) (ej) ?_
        refine g_iald C 7 (j) (f := (hK h1)) rfl rfl (by omega) (by decide) dX4_mind_35 ?_
        refine g_topci (sK S j) (rS.K (by omega)) ?_
        refine g_istore C [(4, .int (sK S j)), (0, .ref ((B 0) 0)), (1, .int x), (2, .int y), (3, .int z)] dX4_mind_36 (by decide) rfl ?_
        refine g_aloadn C dX4_mind_38 1 rfl rfl ?_
        refine g_get C fx4 w_0 0 0 (v := .ref ((B 1) 0)) rfl (by decide) w_1 rfl dX4_mind_39 ?_
        refine g_get C fx0 w_2 5 1 (v := .ref ((B 1) 2)) rfl (by decide) w_3 rfl dX4_mind_42 ?_
        refine g_iloadn C dX4_mind_45 2 rfl rfl ?_
        refine g_topci (nI j) (ej) ?_
        refine g_iloadn C dX4_mind_46 3 rfl rfl ?_
        refine g_iast C 7 (j) (f := (hK h1)) rfl rfl (by omega) (by decide) dX4_mind_47 (ow q B o ++ (hw q (B 1) ((hL h1), (upd (hK h1) j y), (hP h1), (hE h1), (hR h1), (hN h1), (hC h1), (hM h1), (hZ h1), (hJ h1), (hH h1)) ++ (hw q (B 2) h2 ++ (hw q (B 3) h3 ++ (tw q (B 4) t ++ (sw q (B 5) g)))))) rfl ?_
        refine g_aloadn C dX4_mind_48 1 rfl rfl ?_
        refine g_get C fx4 w_0 0 0 (v := .ref ((B 1) 0)) rfl (by decide) w_1 rfl dX4_mind_49 ?_
        refine g_get C fx0 w_2 5 3 (v := .ref ((B 1) 4)) rfl (by decide) w_4 rfl dX4_mind_52 ?_
        refine g_iloadn C dX4_mind_55 2 rfl rfl ?_
        refine g_topci (nI j) (ej) ?_
        refine g_iloadn C dX4_mind_56 4 rfl rfl ?_
        refine g_iast C 9 (j) (f := (hE h1)) rfl rfl (by omega) (by decide) dX4_mind_57 (ow q B o ++ (hw q (B 1) ((hL h1), (upd (hK h1) j y), (hP h1), (upd (hE h1) j z), (hR h1), (hN h1), (hC h1), (hM h1), (hZ h1), (hJ h1), (hH h1)) ++ (hw q (B 2) h2 ++ (hw q (B 3) h3 ++ (tw q (B 4) t ++ (sw q (B 5) g)))))) rfl ?_
        refine g_iload C dX4_mind_58 0 rfl ?_
        exact g_iret C ((hL h1), (upd (hK h1) j y), (hP h1), (upd (hE h1) j z), (hR h1), (hN h1), (hC h1), (hM h1), (hZ h1), (hJ h1), (hH h1)) hr dX4_mind_60 (Nat.le_of_ble_eq_true rfl) (Nat.le_of_ble_eq_true rfl) rfl (by unfold R_mind S_mind; (try simp only [hS0]); (repeat' split) <;> first | (rw [ec]; exact ⟨rfl, N, by rw [ei]; exact hG.w2.w0 hi, hr_k (hr_e rS (by omega)) (by omega)⟩) | exact ⟨rfl, N, hG, rS⟩ | (exfalso; simp only [lg_lt0, lg_gt0, w_le, w_lt, Int32.lt_iff_toInt_lt, Int32.le_iff_toInt_le, ← Int32.toInt_inj, tI_0, tI_1, tI_2, tI_3, tI_4, tI_5, tI_6, tI_7, tI_8, tI_9, tI_10, tI_13, tI_19, tI_20, tI_30, tI_32, tI_40, tI_48, tI_57, tI_59, tI_60, tI_97, tI_99, tI_100, tI_122, tI_200, tI_m1, tI_m2, tI_m3, tI_39, not_and, not_or] at * <;> omega))
      · refine g_iconst C (-1) dX4_mind_25 (by decide) ?_
        exact g_iret C h1 hr dX4_mind_26 (Nat.le_of_ble_eq_true rfl) (Nat.le_of_ble_eq_true rfl) rfl (by unfold R_mind S_mind; (try simp only [hS0]); (repeat' split) <;> first | (rw [ec]; exact ⟨rfl, N, by rw [ei]; exact hG.w2.w0 hi, hr_k (hr_e rS (by omega)) (by omega)⟩) | exact ⟨rfl, N, hG, rS⟩ | (exfalso; simp only [lg_lt0, lg_gt0, w_le, w_lt, Int32.lt_iff_toInt_lt, Int32.le_iff_toInt_le, ← Int32.toInt_inj, tI_0, tI_1, tI_2, tI_3, tI_4, tI_5, tI_6, tI_7, tI_8, tI_9, tI_10, tI_13, tI_19, tI_20, tI_30, tI_32, tI_40, tI_48, tI_57, tI_59, tI_60, tI_97, tI_99, tI_100, tI_122, tI_200, tI_m1, tI_m2, tI_m3, tI_39, not_and, not_or] at * <;> omega))

