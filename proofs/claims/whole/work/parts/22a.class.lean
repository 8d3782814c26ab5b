set_option maxRecDepth 100000 in
set_option maxHeartbeats 4000000 in
theorem k_X4_rowPartOf (l : Launch) (D : va_G) (q : Nat → ClassId) (tt : Nat → Nat) (B : Nat → Nat → Nat) (o : OC) (h1 : HC) (h2 : HC) (h3 : HC) (t : TC) (g : GC) (T : Nat → Int32) (N : Nat) (j : Nat) (w : Nat) (hG : Gd T N) (rS : HR T N h2) (hj : j < N) (hw_ : w < 3) : MI l D q tt yX4_rowPartOf wsX4_rowPartOf ({ frames := 1, cells := 0, slots := 0, locals := 21 } : Room) [.ref ((B 0) 0), .int (nI j), .int (nI w)] (ow q B o ++ (hw q (B 1) h1 ++ (hw q (B 2) h2 ++ (hw q (B 3) h3 ++ (tw q (B 4) t ++ (sw q (B 5) g)))))) (fun (r : Int32) (u : Unit) => r = (rpS T N j w)) (fun (_ : Unit) => (ow q B o ++ (hw q (B 1) h1 ++ (hw q (B 2) h2 ++ (hw q (B 3) h3 ++ (tw q (B 4) t ++ (sw q (B 5) g))))))) 0 0 := by
  refine MI.of RX4 [(0, .ref ((B 0) 0)), (1, .int (nI j)), (2, .int (nI w))] (by decide) rfl rfl (Nat.le_of_ble_eq_true rfl) rfl ?_
  intro p e s m args below meth c A C hr hnm
  have w_0 : ∀ w ∈ u_ws RX4 TX4 11, w ∈ wsX4_rowPartOf := by decide +kernel
  have w_1 : Cond.fieldLink RX4 16 (TX4 1).1 (TX4 1).2.1 (TX4 1).2.2.1 ∈ wsX4_rowPartOf := by decide +kernel
  have w_2 : ∀ w ∈ u_ws RX0 TX0 11, w ∈ wsX4_rowPartOf := by decide +kernel
  have w_3 : Cond.fieldLink RX4 123 (TX0 2).1 (TX0 2).2.1 (TX0 2).2.2.1 ∈ wsX4_rowPartOf := by decide +kernel
  have w_4 : Cond.fieldLink RX4 152 (TX0 6).1 (TX0 6).2.1 (TX0 6).2.2.1 ∈ wsX4_rowPartOf := by decide +kernel
  have h8 := hG.le
  refine g_iloadn C dX4_rowPartOf_0 2 rfl rfl ?_
  by_cases s_1_0 : (nI w) = 0
  · refine g_lsw C 28 dX4_rowPartOf_1 (by decide) (off := 27) (by rw [s_1_0]; rfl) rfl ?_
    refine g_aloadn C dX4_rowPartOf_28 0 rfl rfl ?_
    refine g_get C fx4 w_0 0 1 (v := .ref ((B 2) 0)) rfl (by decide) w_1 rfl dX4_rowPartOf_29 ?_
    refine g_get C fx0 w_2 13 2 (v := .ref ((B 2) 3)) rfl (by decide) w_3 rfl dX4_rowPartOf_32 ?_
    refine g_iloadn C dX4_rowPartOf_35 1 rfl rfl ?_
    refine g_iald C 16 (j) (f := (hP h2)) rfl rfl (by omega) (by decide) dX4_rowPartOf_36 ?_
    refine g_topci (sP T j) (rS.P (by omega)) ?_
    exact g_iret C () hr dX4_rowPartOf_37 (Nat.le_of_ble_eq_true rfl) (Nat.le_of_ble_eq_true rfl) rfl (by
        have h3_ : w = 0 ∨ w = 1 ∨ w = 2 := by omega
        rcases h3_ with rfl | rfl | rfl <;> first | rfl | exact c_46.symm | exact ((hG.one hj).2.2.resolve_right c_46).symm | exact absurd s_1_0 (by decide) | exact absurd rfl s_1_0 | exact absurd s_1_1 (by decide) | exact absurd rfl s_1_1)
  by_cases s_1_1 : (nI w) = 1
  · refine g_lsw C 38 dX4_rowPartOf_1 (by decide) (off := 37) (by rw [s_1_1]; rfl) rfl ?_
    refine g_aloadn C dX4_rowPartOf_38 0 rfl rfl ?_
    refine g_get C fx4 w_0 0 1 (v := .ref ((B 2) 0)) rfl (by decide) w_1 rfl dX4_rowPartOf_39 ?_
    refine g_iloadn C dX4_rowPartOf_42 1 rfl rfl ?_
    refine g_callWi (w1 := (ow q B o ++ (hw q (B 1) h1 ++ (hw q (B 2) h2 ++ (hw q (B 3) h3 ++ (tw q (B 4) t ++ (sw q (B 5) g))))))) (wr := ([0, 1, 2, 3, 4, 5, 6, 7, 8, 9, 10, 11, 12, 21, 22, 23, 24, 25, 26, 27, 28, 29, 30, 31, 32] : List Nat).filterMap (fun i => (ow q B o ++ (hw q (B 1) h1 ++ (hw q (B 2) h2 ++ (hw q (B 3) h3 ++ (tw q (B 4) t ++ (sw q (B 5) g))))))[i]?)) (isC := [13, 14, 15, 16, 17, 18, 19, 20]) (isR := [0, 1, 2, 3, 4, 5, 6, 7, 8, 9, 10, 11, 12, 21, 22, 23, 24, 25, 26, 27, 28, 29, 30, 31, 32]) (pm := [0, 1, 2, 3, 4, 5, 6, 7, 8, 9, 10, 11, 12, 25, 26, 27, 28, 29, 30, 31, 32, 13, 14, 15, 16, 17, 18, 19, 20, 21, 22, 23, 24]) (w1' := (fun _ => (ow q B o ++ (hw q (B 1) h1 ++ (hw q (B 2) h2 ++ (hw q (B 3) h3 ++ (tw q (B 4) t ++ (sw q (B 5) g)))))))) C (rd_V C (k_X0_doesClap l D q tt (B 2) h2 T N j (by first | assumption | omega) (by first | assumption | omega) (by first | assumption | omega)) gX4_rowPartOf_X0_doesClap rfl rfl rfl 1 ok_X0_doesClap rfl 0 rfl rfl (rest := []) rfl rfl (Nat.le_of_ble_eq_true rfl) dX4_rowPartOf_43 ⟨(Nat.le_of_ble_eq_true rfl), (Nat.le_of_ble_eq_true rfl)⟩ ⟨(Nat.le_of_ble_eq_true rfl), (Nat.le_of_ble_eq_true rfl)⟩) rfl rfl rfl (fun _ => rfl) rfl (fun r_43 _ h_43 => ?_)
    obtain rfl := h_43
    refine g_ifeqE C 53 dX4_rowPartOf_46 rfl rfl (fun c_46 => ?_) (fun c_46 => ?_)
    · refine g_iconst C 0 dX4_rowPartOf_53 (by decide) ?_
      exact g_iret C () hr dX4_rowPartOf_54 (Nat.le_of_ble_eq_true rfl) (Nat.le_of_ble_eq_true rfl) rfl (by
          have h3_ : w = 0 ∨ w = 1 ∨ w = 2 := by omega
          rcases h3_ with rfl | rfl | rfl <;> first | rfl | exact c_46.symm | exact ((hG.one hj).2.2.resolve_right c_46).symm | exact absurd s_1_0 (by decide) | exact absurd rfl s_1_0 | exact absurd s_1_1 (by decide) | exact absurd rfl s_1_1)
    · refine g_iconst C 1 dX4_rowPartOf_49 (by decide) ?_
      refine g_goto C 54 dX4_rowPartOf_50 rfl ?_
      exact g_iret C () hr dX4_rowPartOf_54 (Nat.le_of_ble_eq_true rfl) (Nat.le_of_ble_eq_true rfl) rfl (by
          have h3_ : w = 0 ∨ w = 1 ∨ w = 2 := by omega
          rcases h3_ with rfl | rfl | rfl <;> first | rfl | exact c_46.symm | exact ((hG.one hj).2.2.resolve_right c_46).symm | exact absurd s_1_0 (by decide) | exact absurd rfl s_1_0 | exact absurd s_1_1 (by decide) | exact absurd rfl s_1_1)
  refine g_lsw C 55 dX4_rowPartOf_1 (by decide) (off := 54) (by rw [lv_osw s_1_0 (by decide), lv_osw s_1_1 (by decide)]; rfl) rfl ?_
  refine g_aloadn C dX4_rowPartOf_55 0 rfl rfl ?_
  refine g_get C fx4 w_0 0 1 (v := .ref ((B 2) 0)) rfl (by decide) w_1 rfl dX4_rowPartOf_56 ?_
  refine g_get C fx0 w_2 13 6 (v := .int (hC h2)) rfl (by decide) w_4 rfl dX4_rowPartOf_59 ?_
  refine g_topci (clS T N) (rS.c) ?_
  exact g_iret C () hr dX4_rowPartOf_62 (Nat.le_of_ble_eq_true rfl) (Nat.le_of_ble_eq_true rfl) rfl (by
      have h3_ : w = 0 ∨ w = 1 ∨ w = 2 := by omega
      rcases h3_ with rfl | rfl | rfl <;> first | rfl | exact c_46.symm | exact ((hG.one hj).2.2.resolve_right c_46).symm | exact absurd s_1_0 (by decide) | exact absurd rfl s_1_0 | exact absurd s_1_1 (by decide) | exact absurd rfl s_1_1)

set_option maxRecDepth 100000 in
set_option maxHeartbeats 4000000 in
theorem k_X4_isRowPart (l : Launch) (D : va_G) (q : Nat → ClassId) (tt : Nat → Nat) (B : Nat → Nat → Nat) (o : OC) (h1 : HC) (h2 : HC) (h3 : HC) (t : TC) (g : GC) (rn : Nat) (x : Int32) (y : Int32) (hrn : (o_rowCount o) = nI rn) (hr10 : rn ≤ 10) : MI l D q tt yX4_isRowPart wsX4_isRowPart ({ frames := 1, cells := 0, slots := 0, locals := 22 } : Room) [.ref ((B 0) 0), .int x, .int y] (ow q B o ++ (hw q (B 1) h1 ++ (hw q (B 2) h2 ++ (hw q (B 3) h3 ++ (tw q (B 4) t ++ (sw q (B 5) g)))))) (fun (r : Int32) (u : Unit) => r = (bI ((0 ≤ x ∧ x < (nI rn)) ∧ (0 ≤ y ∧ y ≤ 2)))) (fun (_ : Unit) => (ow q B o ++ (hw q (B 1) h1 ++ (hw q (B 2) h2 ++ (hw q (B 3) h3 ++ (tw q (B 4) t ++ (sw q (B 5) g))))))) 0 0 := by
  refine MI.of RX4 [(0, .ref ((B 0) 0)), (1, .int x), (2, .int y)] (by decide) rfl rfl (Nat.le_of_ble_eq_true rfl) rfl ?_
  intro p e s m args below meth c A C hr hnm
  have w_0 : ∀ w ∈ u_ws RX4 TX4 11, w ∈ wsX4_isRowPart := by decide +kernel
  have w_1 : Cond.fieldLink RX4 44 (TX4 7).1 (TX4 7).2.1 (TX4 7).2.2.1 ∈ wsX4_isRowPart := by decide +kernel
  refine g_iloadn C dX4_isRowPart_0 1 rfl rfl ?_
  refine g_iconst C 0 dX4_isRowPart_1 (by decide) ?_
  refine g_aloadn C dX4_isRowPart_2 0 rfl rfl ?_
  refine g_get C fx4 w_0 0 7 (v := .int (o_rowCount o)) rfl (by decide) w_1 rfl dX4_isRowPart_3 ?_
  refine g_topci (nI rn) (hrn) ?_
  refine g_iconst C 1 dX4_isRowPart_6 (by decide) ?_
  refine g_isub C dX4_isRowPart_7 ?_
  refine g_call0i C (rd_S C (k_X4_within l D q tt x 0 ((nI rn) - 1) ) gX4_isRowPart_X4_within rfl rfl rfl 3 ok_X4_within (rest := []) rfl rfl (Nat.le_of_ble_eq_true rfl) dX4_isRowPart_8 ⟨(Nat.le_of_ble_eq_true rfl), (Nat.le_of_ble_eq_true rfl)⟩ ⟨(Nat.le_of_ble_eq_true rfl), (Nat.le_of_ble_eq_true rfl)⟩) (fun _ => rfl) (fun r_8 _ h_8 => ?_)
  obtain rfl := h_8
  refine g_topci (bI (0 ≤ x ∧ x < (nI rn))) (bI_congr (and_congr Iff.rfl (le_pred hr10))) ?_
  refine g_ifeqE C 27 dX4_isRowPart_11 rfl rfl (fun c_11 => ?_) (fun c_11 => ?_)
  · refine g_iconst C 0 dX4_isRowPart_27 (by decide) ?_
    exact g_zret C () hr rfl dX4_isRowPart_28 (Nat.le_of_ble_eq_true rfl) (Nat.le_of_ble_eq_true rfl) rfl ((bI_n (fun z => by first | exact c_11 z.1 | exact c_20 z.2)).symm)
  · refine g_iloadn C dX4_isRowPart_14 2 rfl rfl ?_
    refine g_iconst C 0 dX4_isRowPart_15 (by decide) ?_
    refine g_iconst C 2 dX4_isRowPart_16 (by decide) ?_
    refine g_call0i C (rd_S C (k_X4_within l D q tt y 0 2 ) gX4_isRowPart_X4_within rfl rfl rfl 3 ok_X4_within (rest := []) rfl rfl (Nat.le_of_ble_eq_true rfl) dX4_isRowPart_17 ⟨(Nat.le_of_ble_eq_true rfl), (Nat.le_of_ble_eq_true rfl)⟩ ⟨(Nat.le_of_ble_eq_true rfl), (Nat.le_of_ble_eq_true rfl)⟩) (fun _ => rfl) (fun r_17 _ h_17 => ?_)
    obtain rfl := h_17
    refine g_ifeqE C 27 dX4_isRowPart_20 rfl rfl (fun c_20 => ?_) (fun c_20 => ?_)
    · refine g_iconst C 0 dX4_isRowPart_27 (by decide) ?_
      exact g_zret C () hr rfl dX4_isRowPart_28 (Nat.le_of_ble_eq_true rfl) (Nat.le_of_ble_eq_true rfl) rfl ((bI_n (fun z => by first | exact c_11 z.1 | exact c_20 z.2)).symm)
    · refine g_iconst C 1 dX4_isRowPart_23 (by decide) ?_
      refine g_goto C 28 dX4_isRowPart_24 rfl ?_
      exact g_zret C () hr rfl dX4_isRowPart_28 (Nat.le_of_ble_eq_true rfl) (Nat.le_of_ble_eq_true rfl) rfl ((bI_t ⟨c_11, c_20⟩).symm)

set_option maxRecDepth 100000 in
set_option maxHeartbeats 4000000 in
theorem k_X4_row (l : Launch) (D : va_G) (q : Nat → ClassId) (tt : Nat → Nat) (B : Nat → Nat → Nat) (o : OC) (h1 : HC) (h2 : HC) (h3 : HC) (t : TC) (g : GC) (rn : Nat) (x : Int32) (y : Int32) (hrn : (o_rowCount o) = nI rn) (hr10 : rn ≤ 10) : MI l D q tt yX4_row wsX4_row ({ frames := 2, cells := 0, slots := 0, locals := 44 } : Room) [.ref ((B 0) 0), .int x, .int y] (ow q B o ++ (hw q (B 1) h1 ++ (hw q (B 2) h2 ++ (hw q (B 3) h3 ++ (tw q (B 4) t ++ (sw q (B 5) g)))))) (fun (r : Int32) (u : Unit) => r = R_row (o_rows o) rn x y) (fun (_ : Unit) => (ow q B o ++ (hw q (B 1) h1 ++ (hw q (B 2) h2 ++ (hw q (B 3) h3 ++ (tw q (B 4) t ++ (sw q (B 5) g))))))) 0 0 := by
  refine MI.of RX4 [(0, .ref ((B 0) 0)), (1, .int x), (2, .int y)] (by decide) rfl rfl (Nat.le_of_ble_eq_true rfl) rfl ?_
  intro p e s m args below meth c A C hr hnm
  have w_0 : ∀ w ∈ u_ws RX4 TX4 11, w ∈ wsX4_row := by decide +kernel
  have w_1 : Cond.fieldLink RX4 40 (TX4 6).1 (TX4 6).2.1 (TX4 6).2.2.1 ∈ wsX4_row := by decide +kernel
  refine g_aloadn C dX4_row_0 0 rfl rfl ?_
  refine g_iloadn C dX4_row_1 1 rfl rfl ?_
  refine g_iloadn C dX4_row_2 2 rfl rfl ?_
  refine g_callAi C (rd_V C (k_X4_isRowPart l D q tt B o h1 h2 h3 t g rn x y hrn (by first | assumption | omega)) gX4_row_X4_isRowPart rfl rfl rfl 2 ok_X4_isRowPart rfl 0 rfl rfl (rest := []) rfl rfl (Nat.le_of_ble_eq_true rfl) dX4_row_3 ⟨(Nat.le_of_ble_eq_true rfl), (Nat.le_of_ble_eq_true rfl)⟩ ⟨(Nat.le_of_ble_eq_true rfl), (Nat.le_of_ble_eq_true rfl)⟩) (fun r_3 _ h_3 => ?_)
  obtain rfl := h_3
  refine g_ifeqE C 22 dX4_row_6 rfl rfl (fun c_6 => ?_) (fun c_6 => ?_)
  · refine g_bipush C (-9) dX4_row_22 (by decide) ?_
    exact g_iret C () hr dX4_row_24 (Nat.le_of_ble_eq_true rfl) (Nat.le_of_ble_eq_true rfl) rfl (by unfold R_row; rw [if_neg c_6])
  · obtain ⟨i, hi, ei, ei2⟩ := ix_lt (by omega) c_6.1
    obtain ⟨w, hw_, ew, ew2⟩ := ix_le (n := 2) (by omega) c_6.2
    refine g_aloadn C dX4_row_9 0 rfl rfl ?_
    refine g_get C fx4 w_0 0 6 (v := .ref ((B 0) 1)) rfl (by decide) w_1 rfl dX4_row_10 ?_
    refine g_iloadn C dX4_row_13 1 rfl rfl ?_
    refine g_topci (nI i) (ei) ?_
    refine g_iconst C 3 dX4_row_14 (by decide) ?_
    refine g_imul C dX4_row_15 ?_
    refine g_iloadn C dX4_row_16 2 rfl rfl ?_
    refine g_topci (nI w) (ew) ?_
    refine g_iadd C dX4_row_17 ?_
    refine g_iald C 1 (((i * 3) + w)) (f := (o_rows o)) rfl (ix_add (ix_mul rfl rfl) rfl) (by omega) (by decide) dX4_row_18 ?_
    refine g_goto C 24 dX4_row_19 rfl ?_
    exact g_iret C () hr dX4_row_24 (Nat.le_of_ble_eq_true rfl) (Nat.le_of_ble_eq_true rfl) rfl (by unfold R_row; rw [if_pos c_6, ei2, ew2]; exact congrArg (o_rows o) (by omega))

set_option maxRecDepth 100000 in
set_option maxHeartbeats 4000000 in
theorem k_X4_alterRow (l : Launch) (D : va_G) (q : Nat → ClassId) (tt : Nat → Nat) (B : Nat → Nat → Nat) (o : OC) (h1 : HC) (h2 : HC) (h3 : HC) (t : TC) (g : GC) (rn : Nat) (x : Int32) (y : Int32) (z : Int32) (hrn : (o_rowCount o) = nI rn) (hr10 : rn ≤ 10) : MI l D q tt yX4_alterRow wsX4_alterRow ({ frames := 2, cells := 0, slots := 0, locals := 44 } : Room) [.ref ((B 0) 0), .int x, .int y, .int z] (ow q B o ++ (hw q (B 1) h1 ++ (hw q (B 2) h2 ++ (hw q (B 3) h3 ++ (tw q (B 4) t ++ (sw q (B 5) g)))))) (fun (r : Int32) (u : (Nat → Int32)) => r = R_row (o_rows o) rn x y ∧ u = Q_alter (o_rows o) rn x y z) (fun u => (ow q B ((o_keeps o), u, (o_rowCount o), (o_sheets o), (o_shelvedRows o), (o_shelvedPeople o)) ++ (hw q (B 1) h1 ++ (hw q (B 2) h2 ++ (hw q (B 3) h3 ++ (tw q (B 4) t ++ (sw q (B 5) g))))))) 0 0 := by
  refine MI.of RX4 [(0, .ref ((B 0) 0)), (1, .int x), (2, .int y), (3, .int z)] (by decide) rfl rfl (Nat.le_of_ble_eq_true rfl) rfl ?_
  intro p e s m args below meth c A C hr hnm
  have w_0 : ∀ w ∈ u_ws RX4 TX4 11, w ∈ wsX4_alterRow := by decide +kernel
  have w_1 : Cond.fieldLink RX4 40 (TX4 6).1 (TX4 6).2.1 (TX4 6).2.2.1 ∈ wsX4_alterRow := by decide +kernel
  refine g_aloadn C dX4_alterRow_0 0 rfl rfl ?_
  refine g_iloadn C dX4_alterRow_1 1 rfl rfl ?_
  refine g_iloadn C dX4_alterRow_2 2 rfl rfl ?_
  refine g_callAi C (rd_V C (k_X4_isRowPart l D q tt B o h1 h2 h3 t g rn x y hrn (by first | assumption | omega)) gX4_alterRow_X4_isRowPart rfl rfl rfl 2 ok_X4_isRowPart rfl 0 rfl rfl (rest := []) rfl rfl (Nat.le_of_ble_eq_true rfl) dX4_alterRow_3 ⟨(Nat.le_of_ble_eq_true rfl), (Nat.le_of_ble_eq_true rfl)⟩ ⟨(Nat.le_of_ble_eq_true rfl), (Nat.le_of_ble_eq_true rfl)⟩) (fun r_3 _ h_3 => ?_)
  obtain rfl := h_3
  refine g_ifneE C 12 dX4_alterRow_6 rfl rfl (fun c_6 => ?_) (fun c_6 => ?_)
  · obtain ⟨i, hi, ei, ei2⟩ := ix_lt (by omega) c_6.1
    obtain ⟨w, hw_, ew, ew2⟩ := ix_le (n := 2) (by omega) c_6.2
    refine g_aloadn C dX4_alterRow_12 0 rfl rfl ?_
    refine g_get C fx4 w_0 0 6 (v := .ref ((B 0) 1)) rfl (by decide) w_1 rfl dX4_alterRow_13 ?_
    refine g_iloadn C dX4_alterRow_16 1 rfl rfl ?_
    refine g_topci (nI i) (ei) ?_
    refine g_iconst C 3 dX4_alterRow_17 (by decide) ?_
    refine g_imul C dX4_alterRow_18 ?_
    refine g_iloadn C dX4_alterRow_19 2 rfl rfl ?_
    refine g_topci (nI w) (ew) ?_
    refine g_iadd C dX4_alterRow_20 ?_
    refine g_iald C 1 (((i * 3) + w)) (f := (o_rows o)) rfl (ix_add (ix_mul rfl rfl) rfl) (by omega) (by decide) dX4_alterRow_21 ?_
    refine g_istore C [(4, .int ((o_rows o) ((i * 3) + w))), (0, .ref ((B 0) 0)), (1, .int x), (2, .int y), (3, .int z)] dX4_alterRow_22 (by decide) rfl ?_
    refine g_aloadn C dX4_alterRow_24 1 rfl rfl ?_
    refine g_get C fx4 w_0 0 6 (v := .ref ((B 0) 1)) rfl (by decide) w_1 rfl dX4_alterRow_25 ?_
    refine g_iloadn C dX4_alterRow_28 2 rfl rfl ?_
    refine g_topci (nI i) (ei) ?_
    refine g_iconst C 3 dX4_alterRow_29 (by decide) ?_
    refine g_imul C dX4_alterRow_30 ?_
    refine g_iloadn C dX4_alterRow_31 3 rfl rfl ?_
    refine g_topci (nI w) (ew) ?_
    refine g_iadd C dX4_alterRow_32 ?_
    refine g_iloadn C dX4_alterRow_33 4 rfl rfl ?_
    refine g_iast C 1 (((i * 3) + w)) (f := (o_rows o)) rfl (ix_add (ix_mul rfl rfl) rfl) (by omega) (by decide) dX4_alterRow_34 (ow q B ((o_keeps o), (upd (o_rows o) ((i * 3) + w) z), (o_rowCount o), (o_sheets o), (o_shelvedRows o), (o_shelvedPeople o)) ++ (hw q (B 1) h1 ++ (hw q (B 2) h2 ++ (hw q (B 3) h3 ++ (tw q (B 4) t ++ (sw q (B 5) g)))))) rfl ?_
    refine g_wsc (ow q B ((o_keeps o), (upd (o_rows o) (3 * i + w) z), (o_rowCount o), (o_sheets o), (o_shelvedRows o), (o_shelvedPeople o)) ++ (hw q (B 1) h1 ++ (hw q (B 2) h2 ++ (hw q (B 3) h3 ++ (tw q (B 4) t ++ (sw q (B 5) g)))))) (by rw [show (i * 3) + w = 3 * i + w by omega]) ?_
    refine g_iload C dX4_alterRow_35 0 rfl ?_
    exact g_iret C (upd (o_rows o) (3 * i + w) z) hr dX4_alterRow_37 (Nat.le_of_ble_eq_true rfl) (Nat.le_of_ble_eq_true rfl) rfl (by unfold R_row Q_alter; rw [if_pos c_6, if_pos c_6, ei2, ew2]; exact ⟨congrArg (o_rows o) (by omega), rfl⟩)
  · refine g_bipush C (-9) dX4_alterRow_9 (by decide) ?_
    exact g_iret C (o_rows o) hr dX4_alterRow_11 (Nat.le_of_ble_eq_true rfl) (Nat.le_of_ble_eq_true rfl) rfl (by unfold R_row Q_alter; rw [if_neg c_6, if_neg c_6]; exact ⟨rfl, rfl⟩)

set_option maxRecDepth 100000 in
set_option maxHeartbeats 4000000 in
theorem k_X4_prove (l : Launch) (D : va_G) (q : Nat → ClassId) (tt : Nat → Nat) (B : Nat → Nat → Nat) (o : OC) (h1 : HC) (h2 : HC) (h3 : HC) (t : TC) (g : GC) (S : Nat → Int32) (N : Nat) (x : Int32) (y : Int32) (hG : Gd S N) (rS : HR S N h1) : MI l D q tt yX4_prove wsX4_prove ({ frames := 4, cells := 0, slots := 0, locals := 101 } : Room) [.ref ((B 0) 0), .int x, .int y] (ow q B o ++ (hw q (B 1) h1 ++ (hw q (B 2) h2 ++ (hw q (B 3) h3 ++ (tw q (B 4) t ++ (sw q (B 5) g)))))) (fun (r : Int32) (u : HC × (Nat → Int32) × Int32) => r = R_prove S x y ∧ u.2.1 = Q_prove S N (o_rows o) x y ∧ u.2.2 = C_prove S (o_rowCount o) x y) (fun u => (ow q B ((o_keeps o), u.2.1, u.2.2, (o_sheets o), (o_shelvedRows o), (o_shelvedPeople o)) ++ (hw q (B 1) h1 ++ (hw q (B 2) u.1 ++ (hw q (B 3) h3 ++ (tw q (B 4) t ++ (sw q (B 5) g))))))) 0 0 := by
  refine MI.of RX4 [(0, .ref ((B 0) 0)), (1, .int x), (2, .int y)] (by decide) rfl rfl (Nat.le_of_ble_eq_true rfl) rfl ?_
  intro p e s m args below meth c A C hr hnm
  have w_0 : ∀ w ∈ u_ws RX4 TX4 11, w ∈ wsX4_prove := by decide +kernel
  have w_1 : Cond.fieldLink RX4 10 (TX4 0).1 (TX4 0).2.1 (TX4 0).2.2.1 ∈ wsX4_prove := by decide +kernel
  have w_2 : Cond.fieldLink RX4 44 (TX4 7).1 (TX4 7).2.1 (TX4 7).2.2.1 ∈ wsX4_prove := by decide +kernel
  have w_3 : Cond.fieldLink RX4 16 (TX4 1).1 (TX4 1).2.1 (TX4 1).2.2.1 ∈ wsX4_prove := by decide +kernel
  have w_4 : Cond.fieldLink RX4 40 (TX4 6).1 (TX4 6).2.1 (TX4 6).2.2.1 ∈ wsX4_prove := by decide +kernel
  have h8 := hG.le
  have hS0 := hG.n
  refine g_aloadn C dX4_prove_0 0 rfl rfl ?_
  refine g_get C fx4 w_0 0 0 (v := .ref ((B 1) 0)) rfl (by decide) w_1 rfl dX4_prove_1 ?_
  refine g_iloadn C dX4_prove_4 1 rfl rfl ?_
  refine g_callWi (w1 := (ow q B o ++ (hw q (B 1) h1 ++ (hw q (B 2) h2 ++ (hw q (B 3) h3 ++ (tw q (B 4) t ++ (sw q (B 5) g))))))) (wr := ([0, 1, 2, 3, 4, 13, 14, 15, 16, 17, 18, 19, 20, 21, 22, 23, 24, 25, 26, 27, 28, 29, 30, 31, 32] : List Nat).filterMap (fun i => (ow q B o ++ (hw q (B 1) h1 ++ (hw q (B 2) h2 ++ (hw q (B 3) h3 ++ (tw q (B 4) t ++ (sw q (B 5) g))))))[i]?)) (isC := [5, 6, 7, 8, 9, 10, 11, 12]) (isR := [0, 1, 2, 3, 4, 13, 14, 15, 16, 17, 18, 19, 20, 21, 22, 23, 24, 25, 26, 27, 28, 29, 30, 31, 32]) (pm := [0, 1, 2, 3, 4, 25, 26, 27, 28, 29, 30, 31, 32, 5, 6, 7, 8, 9, 10, 11, 12, 13, 14, 15, 16, 17, 18, 19, 20, 21, 22, 23, 24]) (w1' := (fun _ => (ow q B o ++ (hw q (B 1) h1 ++ (hw q (B 2) h2 ++ (hw q (B 3) h3 ++ (tw q (B 4) t ++ (sw q (B 5) g)))))))) C (rd_V C (k_X0_has l D q tt (B 1) h1 S N x (by first | assumption | omega) (by first | assumption | omega)) gX4_prove_X0_has rfl rfl rfl 1 ok_X0_has rfl 0 rfl rfl (rest := []) rfl rfl (Nat.le_of_ble_eq_true rfl) dX4_prove_5 ⟨(Nat.le_of_ble_eq_true rfl), (Nat.le_of_ble_eq_true rfl)⟩ ⟨(Nat.le_of_ble_eq_true rfl), (Nat.le_of_ble_eq_true rfl)⟩) rfl rfl rfl (fun _ => rfl) rfl (fun r_5 _ h_5 => ?_)
  obtain rfl := h_5
  refine g_ifeqE C 21 dX4_prove_8 rfl rfl (fun c_8 => ?_) (fun c_8 => ?_)
  · refine g_iconst C (-1) dX4_prove_21 (by decide) ?_
    exact g_iret C (h2, (o_rows o), (o_rowCount o)) hr dX4_prove_22 (Nat.le_of_ble_eq_true rfl) (Nat.le_of_ble_eq_true rfl) rfl (by unfold R_prove Q_prove C_prove; rw [hS0, if_neg (fun z => by first | exact c_8 z.1 | exact c_18 z.2), if_neg (fun z => by first | exact c_8 z.1 | exact c_18 z.2), if_neg (fun z => by first | exact c_8 z.1 | exact c_18 z.2)]; exact ⟨rfl, rfl, rfl⟩)
  · refine g_iloadn C dX4_prove_11 2 rfl rfl ?_
    refine g_iconst C 1 dX4_prove_12 (by decide) ?_
    refine g_bipush C 10 dX4_prove_13 (by decide) ?_
    refine g_call0i C (rd_S C (k_X4_within l D q tt y 1 10 ) gX4_prove_X4_within rfl rfl rfl 3 ok_X4_within (rest := []) rfl rfl (Nat.le_of_ble_eq_true rfl) dX4_prove_15 ⟨(Nat.le_of_ble_eq_true rfl), (Nat.le_of_ble_eq_true rfl)⟩ ⟨(Nat.le_of_ble_eq_true rfl), (Nat.le_of_ble_eq_true rfl)⟩) (fun _ => rfl) (fun r_15 _ h_15 => ?_)
    obtain rfl := h_15
    refine g_ifneE C 23 dX4_prove_18 rfl rfl (fun c_18 => ?_) (fun c_18 => ?_)
    · obtain ⟨j, hj, ej, ec⟩ := ix_lt (by omega) c_8
      obtain ⟨n, hn, en, ed⟩ := ix_le (n := 10) (by omega) ⟨Int32.le_trans (by decide) c_18.1, c_18.2⟩
      refine g_aloadn C dX4_prove_23 0 rfl rfl ?_
      refine g_callAv C (rd_V C (k_X4_tryFromNow l D q tt B o h1 h2 h3 t g ) gX4_prove_X4_tryFromNow rfl rfl rfl 0 ok_X4_tryFromNow rfl 0 rfl rfl (rest := []) rfl rfl (Nat.le_of_ble_eq_true rfl) dX4_prove_24 ⟨(Nat.le_of_ble_eq_true rfl), (Nat.le_of_ble_eq_true rfl)⟩ ⟨(Nat.le_of_ble_eq_true rfl), (Nat.le_of_ble_eq_true rfl)⟩) (fun u_24 h_24 => ?_)
      have tr_24 := h_24
      refine g_iconst C 0 dX4_prove_27 (by decide) ?_
      refine g_istoren C [(3, .int 0), (0, .ref ((B 0) 0)), (1, .int x), (2, .int y)] dX4_prove_28 rfl (by decide) rfl ?_
      have J_29 : ∀ (fu : Nat) (i : Nat) (k : HC), n - i < fu → (i ≤ n) → (HR (gosS S N i) N k) → G p l e ({ frames := 4, cells := 0, slots := 0, locals := 101 } : Room) s m args below meth c 5 D A (MQ below (va_Qi (fun (r : Int32) (u : HC × (Nat → Int32) × Int32) => r = R_prove S x y ∧ u.2.1 = Q_prove S N (o_rows o) x y ∧ u.2.2 = C_prove S (o_rowCount o) x y) (Bw D A (fun u => (ow q B ((o_keeps o), u.2.1, u.2.2, (o_sheets o), (o_shelvedRows o), (o_shelvedPeople o)) ++ (hw q (B 1) h1 ++ (hw q (B 2) u.1 ++ (hw q (B 3) h3 ++ (tw q (B 4) t ++ (sw q (B 5) g)))))))) A) args s 0 0 A) 29 [(0, .ref ((B 0) 0)), (1, .int x), (2, .int y), (3, .int (nI i))] [] (ow q B ((o_keeps o), (prR S N j (o_rows o) i), (o_rowCount o), (o_sheets o), (o_shelvedRows o), (o_shelvedPeople o)) ++ (hw q (B 1) h1 ++ (hw q (B 2) k ++ (hw q (B 3) h3 ++ (tw q (B 4) t ++ (sw q (B 5) g)))))) 0 0 := by
        intro fu
        induction fu with
        | zero =>
          intro i k hfu
          exact absurd hfu (Nat.not_lt_zero _)
        | succ fu ih_29 =>
          intro i k hfu hi hk
          refine g_iloadn C dX4_prove_29 3 rfl rfl ?_
          refine g_iloadn C dX4_prove_30 2 rfl rfl ?_
          refine g_topci (nI n) (en) ?_
          refine g_icmpN_ge C 81 (i) (n) dX4_prove_31 rfl (by omega) (by omega) (fun c_31 => ?_) (fun c_31 => ?_)
          · refine g_aloadn C dX4_prove_81 0 rfl rfl ?_
            refine g_iloadn C dX4_prove_82 2 rfl rfl ?_
            refine g_put C fx4 w_0 0 7 rfl (by decide) w_2 rfl rfl rfl (Nat.le_of_ble_eq_true rfl) dX4_prove_83 (ow q B ((o_keeps o), (prR S N j (o_rows o) i), y, (o_sheets o), (o_shelvedRows o), (o_shelvedPeople o)) ++ (hw q (B 1) h1 ++ (hw q (B 2) k ++ (hw q (B 3) h3 ++ (tw q (B 4) t ++ (sw q (B 5) g)))))) rfl ?_
            refine g_iloadn C dX4_prove_86 2 rfl rfl ?_
            exact g_iret C (k, (prR S N j (o_rows o) i), y) hr dX4_prove_87 (Nat.le_of_ble_eq_true rfl) (Nat.le_of_ble_eq_true rfl) rfl (by unfold R_prove Q_prove C_prove; rw [hS0, if_pos ⟨c_8, c_18⟩, if_pos ⟨c_8, c_18⟩, if_pos ⟨c_8, c_18⟩, ec, ed, show i = n by omega]; exact ⟨rfl, rfl, rfl⟩)
          · refine g_aloadn C dX4_prove_34 0 rfl rfl ?_
            refine g_get C fx4 w_0 0 1 (v := .ref ((B 2) 0)) rfl (by decide) w_3 rfl dX4_prove_35 ?_
            refine g_iconst C 1 dX4_prove_38 (by decide) ?_
            refine g_callWv (w1 := (ow q B ((o_keeps o), (prR S N j (o_rows o) i), (o_rowCount o), (o_sheets o), (o_shelvedRows o), (o_shelvedPeople o)) ++ (hw q (B 1) h1 ++ (hw q (B 2) k ++ (hw q (B 3) h3 ++ (tw q (B 4) t ++ (sw q (B 5) g))))))) (wr := ([0, 1, 2, 3, 4, 5, 6, 7, 8, 9, 10, 11, 12, 21, 22, 23, 24, 25, 26, 27, 28, 29, 30, 31, 32] : List Nat).filterMap (fun ix_ => (ow q B ((o_keeps o), (prR S N j (o_rows o) i), (o_rowCount o), (o_sheets o), (o_shelvedRows o), (o_shelvedPeople o)) ++ (hw q (B 1) h1 ++ (hw q (B 2) k ++ (hw q (B 3) h3 ++ (tw q (B 4) t ++ (sw q (B 5) g))))))[ix_]?)) (isC := [13, 14, 15, 16, 17, 18, 19, 20]) (isR := [0, 1, 2, 3, 4, 5, 6, 7, 8, 9, 10, 11, 12, 21, 22, 23, 24, 25, 26, 27, 28, 29, 30, 31, 32]) (pm := [0, 1, 2, 3, 4, 5, 6, 7, 8, 9, 10, 11, 12, 25, 26, 27, 28, 29, 30, 31, 32, 13, 14, 15, 16, 17, 18, 19, 20, 21, 22, 23, 24]) (w1' := (fun u_39 => (ow q B ((o_keeps o), (prR S N j (o_rows o) i), (o_rowCount o), (o_sheets o), (o_shelvedRows o), (o_shelvedPeople o)) ++ (hw q (B 1) h1 ++ (hw q (B 2) u_39 ++ (hw q (B 3) h3 ++ (tw q (B 4) t ++ (sw q (B 5) g)))))))) C (rd_V C (k_X0_pass l D q tt (B 2) k (gosS S N i) N 1 (hG.gos i) hk (by first | assumption | omega)) gX4_prove_X0_pass rfl rfl rfl 1 ok_X0_pass rfl 0 rfl rfl (rest := []) rfl rfl (Nat.le_of_ble_eq_true rfl) dX4_prove_39 ⟨(Nat.le_of_ble_eq_true rfl), (Nat.le_of_ble_eq_true rfl)⟩ ⟨(Nat.le_of_ble_eq_true rfl), (Nat.le_of_ble_eq_true rfl)⟩) rfl rfl rfl (fun _ => rfl) rfl (fun u_39 h_39 => ?_)
            have rS_39 := h_39
            refine g_iconst C 0 dX4_prove_42 (by decide) ?_
            refine g_istore C [(4, .int 0), (0, .ref ((B 0) 0)), (1, .int x), (2, .int y), (3, .int (nI i))] dX4_prove_43 (by decide) rfl ?_
            have J_45 : ∀ (fu : Nat) (w : Nat), 3 - w < fu → (w ≤ 3) → G p l e ({ frames := 4, cells := 0, slots := 0, locals := 101 } : Room) s m args below meth c 5 D A (MQ below (va_Qi (fun (r : Int32) (u : HC × (Nat → Int32) × Int32) => r = R_prove S x y ∧ u.2.1 = Q_prove S N (o_rows o) x y ∧ u.2.2 = C_prove S (o_rowCount o) x y) (Bw D A (fun u => (ow q B ((o_keeps o), u.2.1, u.2.2, (o_sheets o), (o_shelvedRows o), (o_shelvedPeople o)) ++ (hw q (B 1) h1 ++ (hw q (B 2) u.1 ++ (hw q (B 3) h3 ++ (tw q (B 4) t ++ (sw q (B 5) g)))))))) A) args s 0 0 A) 45 [(0, .ref ((B 0) 0)), (1, .int x), (2, .int y), (3, .int (nI i)), (4, .int (nI w))] [] (ow q B ((o_keeps o), (prW S N j (o_rows o) i w), (o_rowCount o), (o_sheets o), (o_shelvedRows o), (o_shelvedPeople o)) ++ (hw q (B 1) h1 ++ (hw q (B 2) u_39 ++ (hw q (B 3) h3 ++ (tw q (B 4) t ++ (sw q (B 5) g)))))) 0 0 := by
              intro fu
              induction fu with
              | zero =>
                intro w hfu
                exact absurd hfu (Nat.not_lt_zero _)
              | succ fu ih_45 =>
                intro w hfu hw_
                refine g_iload C dX4_prove_45 4 rfl ?_
                refine g_iconst C 3 dX4_prove_47 (by decide) ?_
                refine g_icmpN_ge C 75 (w) (3) dX4_prove_48 rfl (by omega) (by omega) (fun c_48 => ?_) (fun c_48 => ?_)
                · refine g_wsc (ow q B ((o_keeps o), (prR S N j (o_rows o) (i + 1)), (o_rowCount o), (o_sheets o), (o_shelvedRows o), (o_shelvedPeople o)) ++ (hw q (B 1) h1 ++ (hw q (B 2) u_39 ++ (hw q (B 3) h3 ++ (tw q (B 4) t ++ (sw q (B 5) g)))))) (by rw [show w = 3 by omega]; rfl) ?_
                  refine g_iinc C (nI (i + 1)) [(3, .int (nI (i + 1))), (0, .ref ((B 0) 0)), (1, .int x), (2, .int y), (4, .int (nI w))] dX4_prove_75 3 rfl (nI_add i 1) (by decide) rfl ?_
                  refine g_goto C 29 dX4_prove_78 rfl ?_
                  refine g_sub [1, 2, 3, 0] (lv' := [(0, .ref ((B 0) 0)), (1, .int x), (2, .int y), (3, .int (nI (i + 1)))]) rfl ?_
                  exact ih_29 ((i + 1)) (u_39) (by omega) (by first | assumption | omega) rS_39
                · refine g_aloadn C dX4_prove_51 0 rfl rfl ?_
                  refine g_get C fx4 w_0 0 6 (v := .ref ((B 0) 1)) rfl (by decide) w_4 rfl dX4_prove_52 ?_
                  refine g_iloadn C dX4_prove_55 3 rfl rfl ?_
                  refine g_iconst C 3 dX4_prove_56 (by decide) ?_
                  refine g_imul C dX4_prove_57 ?_
                  refine g_iload C dX4_prove_58 4 rfl ?_
                  refine g_iadd C dX4_prove_60 ?_
                  refine g_aloadn C dX4_prove_61 0 rfl rfl ?_
                  refine g_iloadn C dX4_prove_62 1 rfl rfl ?_
                  refine g_topci (nI j) (ej) ?_
                  refine g_iload C dX4_prove_63 4 rfl ?_
                  refine g_callAi C (rd_V C (k_X4_rowPartOf l D q tt B ((o_keeps o), (prW S N j (o_rows o) i w), (o_rowCount o), (o_sheets o), (o_shelvedRows o), (o_shelvedPeople o)) h1 u_39 h3 t g (gosS S N (i + 1)) N j w (hG.gos (i + 1)) rS_39 (by first | assumption | omega) (by first | assumption | omega)) gX4_prove_X4_rowPartOf rfl rfl rfl 2 ok_X4_rowPartOf rfl 0 rfl rfl (rest := [.int (((nI i) * 3) + (nI w)), .ref ((B 0) 1)]) rfl rfl (Nat.le_of_ble_eq_true rfl) dX4_prove_65 ⟨(Nat.le_of_ble_eq_true rfl), (Nat.le_of_ble_eq_true rfl)⟩ ⟨(Nat.le_of_ble_eq_true rfl), (Nat.le_of_ble_eq_true rfl)⟩) (fun r_65 _ h_65 => ?_)
                  obtain rfl := h_65
                  refine g_topci (rpS (gosS S N (i + 1)) N j w) rfl ?_
                  refine g_iast C 1 (((i * 3) + w)) (f := (prW S N j (o_rows o) i w)) rfl (ix_add (ix_mul rfl rfl) rfl) (by omega) (by decide) dX4_prove_68 (ow q B ((o_keeps o), (upd (prW S N j (o_rows o) i w) ((i * 3) + w) (rpS (gosS S N (i + 1)) N j w)), (o_rowCount o), (o_sheets o), (o_shelvedRows o), (o_shelvedPeople o)) ++ (hw q (B 1) h1 ++ (hw q (B 2) u_39 ++ (hw q (B 3) h3 ++ (tw q (B 4) t ++ (sw q (B 5) g)))))) rfl ?_
                  refine g_wsc (ow q B ((o_keeps o), (prW S N j (o_rows o) i (w + 1)), (o_rowCount o), (o_sheets o), (o_shelvedRows o), (o_shelvedPeople o)) ++ (hw q (B 1) h1 ++ (hw q (B 2) u_39 ++ (hw q (B 3) h3 ++ (tw q (B 4) t ++ (sw q (B 5) g)))))) (by rw [show (i * 3) + w = 3 * i + w by omega]; rfl) ?_
                  refine g_iinc C (nI (w + 1)) [(4, .int (nI (w + 1))), (0, .ref ((B 0) 0)), (1, .int x), (2, .int y), (3, .int (nI i))] dX4_prove_69 4 rfl (nI_add w 1) (by decide) rfl ?_
                  refine g_goto C 45 dX4_prove_72 rfl ?_
                  refine g_sub [1, 2, 3, 4, 0] (lv' := [(0, .ref ((B 0) 0)), (1, .int x), (2, .int y), (3, .int (nI i)), (4, .int (nI (w + 1)))]) rfl ?_
                  exact ih_45 ((w + 1)) (by omega) (by first | assumption | omega)
            refine g_wsc (ow q B ((o_keeps o), (prW S N j (o_rows o) i 0), (o_rowCount o), (o_sheets o), (o_shelvedRows o), (o_shelvedPeople o)) ++ (hw q (B 1) h1 ++ (hw q (B 2) u_39 ++ (hw q (B 3) h3 ++ (tw q (B 4) t ++ (sw q (B 5) g)))))) (rfl) ?_
            refine g_sub [1, 2, 3, 4, 0] (lv' := [(0, .ref ((B 0) 0)), (1, .int x), (2, .int y), (3, .int (nI i)), (4, .int 0)]) rfl ?_
            exact J_45 _ (0) (Nat.lt_succ_self _) (by first | assumption | omega)
      refine g_wsc (ow q B ((o_keeps o), (prR S N j (o_rows o) 0), (o_rowCount o), (o_sheets o), (o_shelvedRows o), (o_shelvedPeople o)) ++ (hw q (B 1) h1 ++ (hw q (B 2) u_24 ++ (hw q (B 3) h3 ++ (tw q (B 4) t ++ (sw q (B 5) g)))))) (rfl) ?_
      refine g_sub [1, 2, 3, 0] (lv' := [(0, .ref ((B 0) 0)), (1, .int x), (2, .int y), (3, .int 0)]) rfl ?_
      exact J_29 _ (0) (u_24) (Nat.lt_succ_self _) (by first | assumption | omega) (tr_24 S N hG rS)
    · refine g_iconst C (-1) dX4_prove_21 (by decide) ?_
      exact g_iret C (h2, (o_rows o), (o_rowCount o)) hr dX4_prove_22 (Nat.le_of_ble_eq_true rfl) (Nat.le_of_ble_eq_true rfl) rfl (by unfold R_prove Q_prove C_prove; rw [hS0, if_neg (fun z => by first | exact c_8 z.1 | exact c_18 z.2), if_neg (fun z => by first | exact c_8 z.1 | exact c_18 z.2), if_neg (fun z => by first | exact c_8 z.1 | exact c_18 z.2)]; exact ⟨rfl, rfl, rfl⟩)

set_option maxRecDepth 100000 in
set_option maxHeartbeats 4000000 in
theorem k_X4_judge (l : Launch) (D : va_G) (q : Nat → ClassId) (tt : Nat → Nat) (B : Nat → Nat → Nat) (o : OC) (h1 : HC) (h2 : HC) (h3 : HC) (t : TC) (g : GC) (S : Nat → Int32) (N : Nat) (rn : Nat) (x : Int32) (hG : Gd S N) (rS : HR S N h1) (hrn : (o_rowCount o) = nI rn) (hr10 : rn ≤ 10) : MI l D q tt yX4_judge wsX4_judge ({ frames := 4, cells := 0, slots := 0, locals := 101 } : Room) [.ref ((B 0) 0), .int x] (ow q B o ++ (hw q (B 1) h1 ++ (hw q (B 2) h2 ++ (hw q (B 3) h3 ++ (tw q (B 4) t ++ (sw q (B 5) g)))))) (fun (r : Int32) (u : HC) => P_judge S N (o_rows o) rn x r) (fun u => (ow q B o ++ (hw q (B 1) h1 ++ (hw q (B 2) u ++ (hw q (B 3) h3 ++ (tw q (B 4) t ++ (sw q (B 5) g))))))) 0 0 := by
  refine MI.of RX4 [(0, .ref ((B 0) 0)), (1, .int x)] (by decide) rfl rfl (Nat.le_of_ble_eq_true rfl) rfl ?_
  intro p e s m args below meth c A C hr hnm
  have w_0 : ∀ w ∈ u_ws RX4 TX4 11, w ∈ wsX4_judge := by decide +kernel
  have w_1 : Cond.fieldLink RX4 10 (TX4 0).1 (TX4 0).2.1 (TX4 0).2.2.1 ∈ wsX4_judge := by decide +kernel
  have w_2 : Cond.fieldLink RX4 44 (TX4 7).1 (TX4 7).2.1 (TX4 7).2.2.1 ∈ wsX4_judge := by decide +kernel
  have w_3 : Cond.fieldLink RX4 16 (TX4 1).1 (TX4 1).2.1 (TX4 1).2.2.1 ∈ wsX4_judge := by decide +kernel
  have w_4 : Cond.fieldLink RX4 40 (TX4 6).1 (TX4 6).2.1 (TX4 6).2.2.1 ∈ wsX4_judge := by decide +kernel
  have h8 := hG.le
  have hS0 := hG.n
  refine g_aloadn C dX4_judge_0 0 rfl rfl ?_
  refine g_get C fx4 w_0 0 0 (v := .ref ((B 1) 0)) rfl (by decide) w_1 rfl dX4_judge_1 ?_
  refine g_iloadn C dX4_judge_4 1 rfl rfl ?_
  refine g_callWi (w1 := (ow q B o ++ (hw q (B 1) h1 ++ (hw q (B 2) h2 ++ (hw q (B 3) h3 ++ (tw q (B 4) t ++ (sw q (B 5) g))))))) (wr := ([0, 1, 2, 3, 4, 13, 14, 15, 16, 17, 18, 19, 20, 21, 22, 23, 24, 25, 26, 27, 28, 29, 30, 31, 32] : List Nat).filterMap (fun i => (ow q B o ++ (hw q (B 1) h1 ++ (hw q (B 2) h2 ++ (hw q (B 3) h3 ++ (tw q (B 4) t ++ (sw q (B 5) g))))))[i]?)) (isC := [5, 6, 7, 8, 9, 10, 11, 12]) (isR := [0, 1, 2, 3, 4, 13, 14, 15, 16, 17, 18, 19, 20, 21, 22, 23, 24, 25, 26, 27, 28, 29, 30, 31, 32]) (pm := [0, 1, 2, 3, 4, 25, 26, 27, 28, 29, 30, 31, 32, 5, 6, 7, 8, 9, 10, 11, 12, 13, 14, 15, 16, 17, 18, 19, 20, 21, 22, 23, 24]) (w1' := (fun _ => (ow q B o ++ (hw q (B 1) h1 ++ (hw q (B 2) h2 ++ (hw q (B 3) h3 ++ (tw q (B 4) t ++ (sw q (B 5) g)))))))) C (rd_V C (k_X0_has l D q tt (B 1) h1 S N x (by first | assumption | omega) (by first | assumption | omega)) gX4_judge_X0_has rfl rfl rfl 1 ok_X0_has rfl 0 rfl rfl (rest := []) rfl rfl (Nat.le_of_ble_eq_true rfl) dX4_judge_5 ⟨(Nat.le_of_ble_eq_true rfl), (Nat.le_of_ble_eq_true rfl)⟩ ⟨(Nat.le_of_ble_eq_true rfl), (Nat.le_of_ble_eq_true rfl)⟩) rfl rfl rfl (fun _ => rfl) rfl (fun r_5 _ h_5 => ?_)
  obtain rfl := h_5
  refine g_ifneE C 13 dX4_judge_8 rfl rfl (fun c_8 => ?_) (fun c_8 => ?_)
  · obtain ⟨j, hj, ej, ec⟩ := ix_lt (by omega) c_8
    refine g_aloadn C dX4_judge_13 0 rfl rfl ?_
    refine g_callAv C (rd_V C (k_X4_tryFromNow l D q tt B o h1 h2 h3 t g ) gX4_judge_X4_tryFromNow rfl rfl rfl 0 ok_X4_tryFromNow rfl 0 rfl rfl (rest := []) rfl rfl (Nat.le_of_ble_eq_true rfl) dX4_judge_14 ⟨(Nat.le_of_ble_eq_true rfl), (Nat.le_of_ble_eq_true rfl)⟩ ⟨(Nat.le_of_ble_eq_true rfl), (Nat.le_of_ble_eq_true rfl)⟩) (fun u_14 h_14 => ?_)
    have tr_14 := h_14
    refine g_iconst C 0 dX4_judge_17 (by decide) ?_
    refine g_istoren C [(2, .int 0), (0, .ref ((B 0) 0)), (1, .int x)] dX4_judge_18 rfl (by decide) rfl ?_
    have J_19 : ∀ (fu : Nat) (i : Nat) (k : HC), rn - i < fu → (i ≤ rn) → (HR (gosS S N i) N k) → (∀ k_, k_ < i → jdM S N j (o_rows o) k_) → G p l e ({ frames := 4, cells := 0, slots := 0, locals := 101 } : Room) s m args below meth c 4 D A (MQ below (va_Qi (fun (r : Int32) (u : HC) => P_judge S N (o_rows o) rn x r) (Bw D A (fun u => (ow q B o ++ (hw q (B 1) h1 ++ (hw q (B 2) u ++ (hw q (B 3) h3 ++ (tw q (B 4) t ++ (sw q (B 5) g)))))))) A) args s 0 0 A) 19 [(0, .ref ((B 0) 0)), (1, .int x), (2, .int (nI i))] [] (ow q B o ++ (hw q (B 1) h1 ++ (hw q (B 2) k ++ (hw q (B 3) h3 ++ (tw q (B 4) t ++ (sw q (B 5) g)))))) 0 0 := by
      intro fu
      induction fu with
      | zero =>
        intro i k hfu
        exact absurd hfu (Nat.not_lt_zero _)
      | succ fu ih_19 =>
        intro i k hfu hi hk hJ_
        refine g_iloadn C dX4_judge_19 2 rfl rfl ?_
        refine g_aloadn C dX4_judge_20 0 rfl rfl ?_
        refine g_get C fx4 w_0 0 7 (v := .int (o_rowCount o)) rfl (by decide) w_2 rfl dX4_judge_21 ?_
        refine g_topci (nI rn) (hrn) ?_
        refine g_icmpN_ge C 77 (i) (rn) dX4_judge_24 rfl (by omega) (by omega) (fun c_24 => ?_) (fun c_24 => ?_)
        · refine g_iconst C 0 dX4_judge_77 (by decide) ?_
          exact g_iret C k hr dX4_judge_78 (Nat.le_of_ble_eq_true rfl) (Nat.le_of_ble_eq_true rfl) rfl (Or.inl ⟨by rw [hS0]; exact c_8, by rw [ec]; exact Or.inl ⟨rfl, fun k_ hk_ => hJ_ k_ (by omega)⟩⟩)
        · refine g_aloadn C dX4_judge_27 0 rfl rfl ?_
          refine g_get C fx4 w_0 0 1 (v := .ref ((B 2) 0)) rfl (by decide) w_3 rfl dX4_judge_28 ?_
          refine g_iconst C 1 dX4_judge_31 (by decide) ?_
          refine g_callWv (w1 := (ow q B o ++ (hw q (B 1) h1 ++ (hw q (B 2) k ++ (hw q (B 3) h3 ++ (tw q (B 4) t ++ (sw q (B 5) g))))))) (wr := ([0, 1, 2, 3, 4, 5, 6, 7, 8, 9, 10, 11, 12, 21, 22, 23, 24, 25, 26, 27, 28, 29, 30, 31, 32] : List Nat).filterMap (fun i => (ow q B o ++ (hw q (B 1) h1 ++ (hw q (B 2) k ++ (hw q (B 3) h3 ++ (tw q (B 4) t ++ (sw q (B 5) g))))))[i]?)) (isC := [13, 14, 15, 16, 17, 18, 19, 20]) (isR := [0, 1, 2, 3, 4, 5, 6, 7, 8, 9, 10, 11, 12, 21, 22, 23, 24, 25, 26, 27, 28, 29, 30, 31, 32]) (pm := [0, 1, 2, 3, 4, 5, 6, 7, 8, 9, 10, 11, 12, 25, 26, 27, 28, 29, 30, 31, 32, 13, 14, 15, 16, 17, 18, 19, 20, 21, 22, 23, 24]) (w1' := (fun u_32 => (ow q B o ++ (hw q (B 1) h1 ++ (hw q (B 2) u_32 ++ (hw q (B 3) h3 ++ (tw q (B 4) t ++ (sw q (B 5) g)))))))) C (rd_V C (k_X0_pass l D q tt (B 2) k (gosS S N i) N 1 (hG.gos i) hk (by first | assumption | omega)) gX4_judge_X0_pass rfl rfl rfl 1 ok_X0_pass rfl 0 rfl rfl (rest := []) rfl rfl (Nat.le_of_ble_eq_true rfl) dX4_judge_32 ⟨(Nat.le_of_ble_eq_true rfl), (Nat.le_of_ble_eq_true rfl)⟩ ⟨(Nat.le_of_ble_eq_true rfl), (Nat.le_of_ble_eq_true rfl)⟩) rfl rfl rfl (fun _ => rfl) rfl (fun u_32 h_32 => ?_)
          have rS_32 := h_32
          refine g_iconst C 0 dX4_judge_35 (by decide) ?_
          refine g_istoren C [(3, .int 0), (0, .ref ((B 0) 0)), (1, .int x), (2, .int (nI i))] dX4_judge_36 rfl (by decide) rfl ?_
          have J_37 : ∀ (fu : Nat) (w : Nat), 3 - w < fu → (w ≤ 3) → (∀ k_, k_ < w → (o_rows o) (3 * i + k_) = rpS (gosS S N (i + 1)) N j k_) → G p l e ({ frames := 4, cells := 0, slots := 0, locals := 101 } : Room) s m args below meth c 4 D A (MQ below (va_Qi (fun (r : Int32) (u : HC) => P_judge S N (o_rows o) rn x r) (Bw D A (fun u => (ow q B o ++ (hw q (B 1) h1 ++ (hw q (B 2) u ++ (hw q (B 3) h3 ++ (tw q (B 4) t ++ (sw q (B 5) g)))))))) A) args s 0 0 A) 37 [(0, .ref ((B 0) 0)), (1, .int x), (2, .int (nI i)), (3, .int (nI w))] [] (ow q B o ++ (hw q (B 1) h1 ++ (hw q (B 2) u_32 ++ (hw q (B 3) h3 ++ (tw q (B 4) t ++ (sw q (B 5) g)))))) 0 0 := by
            intro fu
            induction fu with
            | zero =>
              intro w hfu
              exact absurd hfu (Nat.not_lt_zero _)
            | succ fu ih_37 =>
              intro w hfu hw_ hW
              refine g_iloadn C dX4_judge_37 3 rfl rfl ?_
              refine g_iconst C 3 dX4_judge_38 (by decide) ?_
              refine g_icmpN_ge C 71 (w) (3) dX4_judge_39 rfl (by omega) (by omega) (fun c_39 => ?_) (fun c_39 => ?_)
              · refine g_iinc C (nI (i + 1)) [(2, .int (nI (i + 1))), (0, .ref ((B 0) 0)), (1, .int x), (3, .int (nI w))] dX4_judge_71 2 rfl (nI_add i 1) (by decide) rfl ?_
                refine g_goto C 19 dX4_judge_74 rfl ?_
                refine g_sub [1, 2, 0] (lv' := [(0, .ref ((B 0) 0)), (1, .int x), (2, .int (nI (i + 1)))]) rfl ?_
                exact ih_19 ((i + 1)) (u_32) (by omega) (by first | assumption | omega) rS_32 (jd_next hJ_ (fun k_ hk_ => hW k_ (by omega)))
              · refine g_aloadn C dX4_judge_42 0 rfl rfl ?_
                refine g_get C fx4 w_0 0 6 (v := .ref ((B 0) 1)) rfl (by decide) w_4 rfl dX4_judge_43 ?_
                refine g_iloadn C dX4_judge_46 2 rfl rfl ?_
                refine g_iconst C 3 dX4_judge_47 (by decide) ?_
                refine g_imul C dX4_judge_48 ?_
                refine g_iloadn C dX4_judge_49 3 rfl rfl ?_
                refine g_iadd C dX4_judge_50 ?_
                refine g_iald C 1 (((i * 3) + w)) (f := (o_rows o)) rfl (ix_add (ix_mul rfl rfl) rfl) (by omega) (by decide) dX4_judge_51 ?_
                refine g_aloadn C dX4_judge_52 0 rfl rfl ?_
                refine g_iloadn C dX4_judge_53 1 rfl rfl ?_
                refine g_topci (nI j) (ej) ?_
                refine g_iloadn C dX4_judge_54 3 rfl rfl ?_
                refine g_callAi C (rd_V C (k_X4_rowPartOf l D q tt B o h1 u_32 h3 t g (gosS S N (i + 1)) N j w (hG.gos (i + 1)) rS_32 (by first | assumption | omega) (by first | assumption | omega)) gX4_judge_X4_rowPartOf rfl rfl rfl 2 ok_X4_rowPartOf rfl 0 rfl rfl (rest := [.int ((o_rows o) ((i * 3) + w))]) rfl rfl (Nat.le_of_ble_eq_true rfl) dX4_judge_55 ⟨(Nat.le_of_ble_eq_true rfl), (Nat.le_of_ble_eq_true rfl)⟩ ⟨(Nat.le_of_ble_eq_true rfl), (Nat.le_of_ble_eq_true rfl)⟩) (fun r_55 _ h_55 => ?_)
                obtain rfl := h_55
                refine g_icmp_eq C 65 dX4_judge_58 rfl (fun c_58 => ?_) (fun c_58 => ?_)
                · refine g_iinc C (nI (w + 1)) [(3, .int (nI (w + 1))), (0, .ref ((B 0) 0)), (1, .int x), (2, .int (nI i))] dX4_judge_65 3 rfl (nI_add w 1) (by decide) rfl ?_
                  refine g_goto C 37 dX4_judge_68 rfl ?_
                  refine g_sub [1, 2, 3, 0] (lv' := [(0, .ref ((B 0) 0)), (1, .int x), (2, .int (nI i)), (3, .int (nI (w + 1)))]) rfl ?_
                  exact ih_37 ((w + 1)) (by omega) (by first | assumption | omega) (jm_next hW ((congrArg (o_rows o) (by omega)).trans c_58))
                · refine g_iloadn C dX4_judge_61 2 rfl rfl ?_
                  refine g_iconst C 1 dX4_judge_62 (by decide) ?_
                  refine g_iadd C dX4_judge_63 ?_
                  exact g_iret C u_32 hr dX4_judge_64 (Nat.le_of_ble_eq_true rfl) (Nat.le_of_ble_eq_true rfl) rfl (Or.inl ⟨by rw [hS0]; exact c_8, by rw [ec]; exact Or.inr ⟨i, by omega, nI_add i 1, fun z => c_58 ((congrArg (o_rows o) (by omega)).trans (z w (by omega))), hJ_⟩⟩)
          refine g_sub [1, 2, 3, 0] (lv' := [(0, .ref ((B 0) 0)), (1, .int x), (2, .int (nI i)), (3, .int 0)]) rfl ?_
          exact J_37 _ (0) (Nat.lt_succ_self _) (by first | assumption | omega) (fun k_ h => absurd h (Nat.not_lt_zero k_))
    refine g_sub [1, 2, 0] (lv' := [(0, .ref ((B 0) 0)), (1, .int x), (2, .int 0)]) rfl ?_
    exact J_19 _ (0) (u_14) (Nat.lt_succ_self _) (by first | assumption | omega) (tr_14 S N hG rS) (fun k_ h => absurd h (Nat.not_lt_zero k_))
  · refine g_iconst C (-1) dX4_judge_11 (by decide) ?_
    exact g_iret C h2 hr dX4_judge_12 (Nat.le_of_ble_eq_true rfl) (Nat.le_of_ble_eq_true rfl) rfl (Or.inr ⟨(fun z => c_8 (by rw [hS0] at z; exact z)), rfl⟩)

