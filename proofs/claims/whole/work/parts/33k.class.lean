set_option maxRecDepth 100000 in
set_option maxHeartbeats 4000000 in
theorem k_takN (l : Launch) (D : va_G) (q : Nat → ClassId) (tt : Nat → Nat) (B : Nat → Nat → Nat) (o : OC) (h1 : HC) (h2 : HC) (h3 : HC) (t : TC) (g : GC) (S : Nat → Int32) (N : Nat) (x : Int32) (y : Int32) (hG : Gd S N) (rS : HR S N h1) (hno : ∀ j, j < 4 → x = nI j → (o_shelvedRows o) j = none) : MI l D q tt yX4_taken wsX4_taken ({ frames := 3, cells := 0, slots := 0, locals := 65 } : Room) [.ref ((B 0) 0), .int x, .int y] (ow q B o ++ (hw q (B 1) h1 ++ (hw q (B 2) h2 ++ (hw q (B 3) h3 ++ (tw q (B 4) t ++ (sw q (B 5) g)))))) (fun (r : Int32) (u : Unit) => r = R_takA S (o_shelvedPeople o) x y) (fun (_ : Unit) => (ow q B o ++ (hw q (B 1) h1 ++ (hw q (B 2) h2 ++ (hw q (B 3) h3 ++ (tw q (B 4) t ++ (sw q (B 5) g))))))) 0 0 := by
  refine MI.of RX4 [(0, .ref ((B 0) 0)), (1, .int x), (2, .int y)] (by decide) rfl rfl (Nat.le_of_ble_eq_true rfl) rfl ?_
  intro p e s m args below meth c A C hr hnm
  have w_0 : ∀ w ∈ u_ws RX4 TX4 11, w ∈ wsX4_taken := by decide +kernel
  have w_1 : Cond.fieldLink RX4 54 (TX4 9).1 (TX4 9).2.1 (TX4 9).2.2.1 ∈ wsX4_taken := by decide +kernel
  have w_2 : Cond.fieldLink RX4 57 (TX4 10).1 (TX4 10).2.1 (TX4 10).2.2.1 ∈ wsX4_taken := by decide +kernel
  have w_3 : Cond.fieldLink RX4 10 (TX4 0).1 (TX4 0).2.1 (TX4 0).2.2.1 ∈ wsX4_taken := by decide +kernel
  have w_4 : ∀ w ∈ u_ws RX0 TX0 11, w ∈ wsX4_taken := by decide +kernel
  have w_5 : Cond.fieldLink RX4 120 (TX0 1).1 (TX0 1).2.1 (TX0 1).2.2.1 ∈ wsX4_taken := by decide +kernel
  have h8 := hG.le
  have hS0 := hG.n
  refine g_iloadn C dX4_taken_0 2 rfl rfl ?_
  refine g_bipush C 10 dX4_taken_1 (by decide) ?_
  refine g_isub C dX4_taken_3 ?_
  refine g_iconst C 0 dX4_taken_4 (by decide) ?_
  refine g_iconst C 3 dX4_taken_5 (by decide) ?_
  refine g_call0i C (rd_S C (k_X4_within l D q tt (y - 10) 0 3 ) gX4_taken_X4_within rfl rfl rfl 3 ok_X4_within (rest := []) rfl rfl (Nat.le_of_ble_eq_true rfl) dX4_taken_6 ⟨(Nat.le_of_ble_eq_true rfl), (Nat.le_of_ble_eq_true rfl)⟩ ⟨(Nat.le_of_ble_eq_true rfl), (Nat.le_of_ble_eq_true rfl)⟩) (fun _ => rfl) (fun r_6 _ h_6 => ?_)
  obtain rfl := h_6
  refine g_topci (bI (10 ≤ y ∧ y ≤ 13)) (bI_congr (y10 y)) ?_
  refine g_istoren C [(3, .int (bI (10 ≤ y ∧ y ≤ 13))), (0, .ref ((B 0) 0)), (1, .int x), (2, .int y)] dX4_taken_9 rfl (by decide) rfl ?_
  refine g_iloadn C dX4_taken_10 2 rfl rfl ?_
  refine g_call0i C (rd_S C (k_X4_isPlace l D q tt x ) gX4_taken_X4_isPlace rfl rfl rfl 1 ok_X4_isPlace (rest := []) rfl rfl (Nat.le_of_ble_eq_true rfl) dX4_taken_11 ⟨(Nat.le_of_ble_eq_true rfl), (Nat.le_of_ble_eq_true rfl)⟩ ⟨(Nat.le_of_ble_eq_true rfl), (Nat.le_of_ble_eq_true rfl)⟩) (fun _ => rfl) (fun r_11 _ h_11 => ?_)
  obtain rfl := h_11
  refine g_ifeqE C 28 dX4_taken_14 rfl rfl (fun c_14 => ?_) (fun c_14 => ?_)
  · refine g_iconst C (-1) dX4_taken_28 (by decide) ?_
    exact g_iret C () hr dX4_taken_29 (Nat.le_of_ble_eq_true rfl) (Nat.le_of_ble_eq_true rfl) rfl (by have hn_ : ¬ tkG x y := fun h => c_14 h.1; unfold R_takA; rw [if_neg hn_])
  · refine g_iloadn C dX4_taken_17 0 rfl rfl ?_
    refine g_ifneE C 30 dX4_taken_18 rfl rfl (fun c_18 => ?_) (fun c_18 => ?_)
    · obtain ⟨j, hj, ej, ec⟩ := ix_le (n := 3) (by omega) c_14
      refine g_aloadn C dX4_taken_30 1 rfl rfl ?_
      refine g_get C fx4 w_0 0 9 (v := .ref ((B 0) 3)) rfl (by decide) w_1 rfl dX4_taken_31 ?_
      refine g_iloadn C dX4_taken_34 2 rfl rfl ?_
      refine g_topci (nI j) (ej) ?_
      refine g_aldN C 3 (j) (f := (o_shelvedRows o)) rfl rfl (by omega) (by decide) (hno j (by omega) ej) dX4_taken_35 ?_
      refine g_astoreN C [(4, .null), (3, .int (bI (10 ≤ y ∧ y ≤ 13))), (0, .ref ((B 0) 0)), (1, .int x), (2, .int y)] dX4_taken_36 (by decide) rfl ?_
      refine g_aloadn C dX4_taken_38 2 rfl rfl ?_
      refine g_get C fx4 w_0 0 10 (v := .ref ((B 0) 4)) rfl (by decide) w_2 rfl dX4_taken_39 ?_
      refine g_iloadn C dX4_taken_42 3 rfl rfl ?_
      refine g_topci (nI j) (ej) ?_
      refine g_iald C 4 (j) (f := (o_shelvedPeople o)) rfl rfl (by omega) (by decide) dX4_taken_43 ?_
      refine g_istore C [(5, .int ((o_shelvedPeople o) j)), (4, .null), (3, .int (bI (10 ≤ y ∧ y ≤ 13))), (0, .ref ((B 0) 0)), (1, .int x), (2, .int y)] dX4_taken_44 (by decide) rfl ?_
      refine g_aloadN C dX4_taken_46 1 rfl ?_
      refine g_ifnullN C 79 dX4_taken_48 rfl ?_
      refine g_aloadn C dX4_taken_79 3 rfl rfl ?_
      refine g_get C fx4 w_0 0 0 (v := .ref ((B 1) 0)) rfl (by decide) w_3 rfl dX4_taken_80 ?_
      refine g_iload C dX4_taken_83 0 rfl ?_
      refine g_callWi (w1 := (ow q B o ++ (hw q (B 1) h1 ++ (hw q (B 2) h2 ++ (hw q (B 3) h3 ++ (tw q (B 4) t ++ (sw q (B 5) g))))))) (wr := ([0, 1, 2, 3, 4, 13, 14, 15, 16, 17, 18, 19, 20, 21, 22, 23, 24, 25, 26, 27, 28, 29, 30, 31, 32] : List Nat).filterMap (fun i => (ow q B o ++ (hw q (B 1) h1 ++ (hw q (B 2) h2 ++ (hw q (B 3) h3 ++ (tw q (B 4) t ++ (sw q (B 5) g))))))[i]?)) (isC := [5, 6, 7, 8, 9, 10, 11, 12]) (isR := [0, 1, 2, 3, 4, 13, 14, 15, 16, 17, 18, 19, 20, 21, 22, 23, 24, 25, 26, 27, 28, 29, 30, 31, 32]) (pm := [0, 1, 2, 3, 4, 25, 26, 27, 28, 29, 30, 31, 32, 5, 6, 7, 8, 9, 10, 11, 12, 13, 14, 15, 16, 17, 18, 19, 20, 21, 22, 23, 24]) (w1' := (fun _ => (ow q B o ++ (hw q (B 1) h1 ++ (hw q (B 2) h2 ++ (hw q (B 3) h3 ++ (tw q (B 4) t ++ (sw q (B 5) g)))))))) C (rd_V C (k_X0_has l D q tt (B 1) h1 S N ((o_shelvedPeople o) j) (by first | assumption | omega) (by first | assumption | omega)) gX4_taken_X0_has rfl rfl rfl 1 ok_X0_has rfl 0 rfl rfl (rest := []) rfl rfl (Nat.le_of_ble_eq_true rfl) dX4_taken_85 ⟨(Nat.le_of_ble_eq_true rfl), (Nat.le_of_ble_eq_true rfl)⟩ ⟨(Nat.le_of_ble_eq_true rfl), (Nat.le_of_ble_eq_true rfl)⟩) rfl rfl rfl (fun _ => rfl) rfl (fun r_85 _ h_85 => ?_)
      obtain rfl := h_85
      refine g_ifneE C 94 dX4_taken_88 rfl rfl (fun c_88 => ?_) (fun c_88 => ?_)
      · obtain ⟨d, hd, ed, ecd⟩ := ix_lt (by omega) c_88
        obtain ⟨kd, hk5, hkd_⟩ := (hG.one hd).1
        refine g_aloadn C dX4_taken_94 3 rfl rfl ?_
        refine g_get C fx4 w_0 0 0 (v := .ref ((B 1) 0)) rfl (by decide) w_3 rfl dX4_taken_95 ?_
        refine g_get C fx0 w_4 5 1 (v := .ref ((B 1) 2)) rfl (by decide) w_5 rfl dX4_taken_98 ?_
        refine g_iload C dX4_taken_101 0 rfl ?_
        refine g_topci (nI d) (ed) ?_
        refine g_iald C 7 (d) (f := (hK h1)) rfl rfl (by omega) (by decide) dX4_taken_103 ?_
        refine g_topci (sK S d) (rS.K (by omega)) ?_
        refine g_topci (nI kd) (hkd_) ?_
        refine g_iloadn C dX4_taken_104 5 rfl rfl ?_
        refine g_call0i C (rd_S C (k_X4_isUnder l D q tt kd y (by first | assumption | omega)) gX4_taken_X4_isUnder rfl rfl rfl 2 ok_X4_isUnder (rest := []) rfl rfl (Nat.le_of_ble_eq_true rfl) dX4_taken_105 ⟨(Nat.le_of_ble_eq_true rfl), (Nat.le_of_ble_eq_true rfl)⟩ ⟨(Nat.le_of_ble_eq_true rfl), (Nat.le_of_ble_eq_true rfl)⟩) (fun _ => rfl) (fun r_105 _ h_105 => ?_)
        obtain rfl := h_105
        refine g_ifeqE C 116 dX4_taken_108 rfl rfl (fun c_108 => ?_) (fun c_108 => ?_)
        · refine g_bipush C (-13) dX4_taken_116 (by decide) ?_
          exact g_iret C () hr dX4_taken_118 (Nat.le_of_ble_eq_true rfl) (Nat.le_of_ble_eq_true rfl) rfl (by have hg_ : tkG x y := ⟨c_14, Or.inr c_18⟩; unfold R_takA; rw [if_pos hg_, ec, if_pos (show 0 ≤ (o_shelvedPeople o) j ∧ (o_shelvedPeople o) j < S 0 by rw [hS0]; exact c_88), ecd, if_neg (fun h => c_108 (by rw [← hkd_]; exact h))])
        · refine g_iload C dX4_taken_111 0 rfl ?_
          refine g_goto C 118 dX4_taken_113 rfl ?_
          exact g_iret C () hr dX4_taken_118 (Nat.le_of_ble_eq_true rfl) (Nat.le_of_ble_eq_true rfl) rfl (by have hg_ : tkG x y := ⟨c_14, Or.inr c_18⟩; unfold R_takA; rw [if_pos hg_, ec, if_pos (show 0 ≤ (o_shelvedPeople o) j ∧ (o_shelvedPeople o) j < S 0 by rw [hS0]; exact c_88), ecd, if_pos (show unS (sK S d) y by rw [hkd_]; exact c_108)])
      · refine g_bipush C (-11) dX4_taken_91 (by decide) ?_
        exact g_iret C () hr dX4_taken_93 (Nat.le_of_ble_eq_true rfl) (Nat.le_of_ble_eq_true rfl) rfl (by have hg_ : tkG x y := ⟨c_14, Or.inr c_18⟩; unfold R_takA; rw [if_pos hg_, ec, if_neg (fun h => c_88 (by rw [hS0] at h; exact h))])
    · refine g_iloadn C dX4_taken_21 3 rfl rfl ?_
      refine g_call0i C (rd_S C (k_X4_isKind l D q tt y ) gX4_taken_X4_isKind rfl rfl rfl 1 ok_X4_isKind (rest := []) rfl rfl (Nat.le_of_ble_eq_true rfl) dX4_taken_22 ⟨(Nat.le_of_ble_eq_true rfl), (Nat.le_of_ble_eq_true rfl)⟩ ⟨(Nat.le_of_ble_eq_true rfl), (Nat.le_of_ble_eq_true rfl)⟩) (fun _ => rfl) (fun r_22 _ h_22 => ?_)
      obtain rfl := h_22
      refine g_ifneE C 30 dX4_taken_25 rfl rfl (fun c_25 => ?_) (fun c_25 => ?_)
      · obtain ⟨j, hj, ej, ec⟩ := ix_le (n := 3) (by omega) c_14
        refine g_aloadn C dX4_taken_30 1 rfl rfl ?_
        refine g_get C fx4 w_0 0 9 (v := .ref ((B 0) 3)) rfl (by decide) w_1 rfl dX4_taken_31 ?_
        refine g_iloadn C dX4_taken_34 2 rfl rfl ?_
        refine g_topci (nI j) (ej) ?_
        refine g_aldN C 3 (j) (f := (o_shelvedRows o)) rfl rfl (by omega) (by decide) (hno j (by omega) ej) dX4_taken_35 ?_
        refine g_astoreN C [(4, .null), (3, .int (bI (10 ≤ y ∧ y ≤ 13))), (0, .ref ((B 0) 0)), (1, .int x), (2, .int y)] dX4_taken_36 (by decide) rfl ?_
        refine g_aloadn C dX4_taken_38 2 rfl rfl ?_
        refine g_get C fx4 w_0 0 10 (v := .ref ((B 0) 4)) rfl (by decide) w_2 rfl dX4_taken_39 ?_
        refine g_iloadn C dX4_taken_42 3 rfl rfl ?_
        refine g_topci (nI j) (ej) ?_
        refine g_iald C 4 (j) (f := (o_shelvedPeople o)) rfl rfl (by omega) (by decide) dX4_taken_43 ?_
        refine g_istore C [(5, .int ((o_shelvedPeople o) j)), (4, .null), (3, .int (bI (10 ≤ y ∧ y ≤ 13))), (0, .ref ((B 0) 0)), (1, .int x), (2, .int y)] dX4_taken_44 (by decide) rfl ?_
        refine g_aloadN C dX4_taken_46 1 rfl ?_
        refine g_ifnullN C 79 dX4_taken_48 rfl ?_
        refine g_aloadn C dX4_taken_79 3 rfl rfl ?_
        refine g_get C fx4 w_0 0 0 (v := .ref ((B 1) 0)) rfl (by decide) w_3 rfl dX4_taken_80 ?_
        refine g_iload C dX4_taken_83 0 rfl ?_
        refine g_callWi (w1 := (ow q B o ++ (hw q (B 1) h1 ++ (hw q (B 2) h2 ++ (hw q (B 3) h3 ++ (tw q (B 4) t ++ (sw q (B 5) g))))))) (wr := ([0, 1, 2, 3, 4, 13, 14, 15, 16, 17, 18, 19, 20, 21, 22, 23, 24, 25, 26, 27, 28, 29, 30, 31, 32] : List Nat).filterMap (fun i => (ow q B o ++ (hw q (B 1) h1 ++ (hw q (B 2) h2 ++ (hw q (B 3) h3 ++ (tw q (B 4) t ++ (sw q (B 5) g))))))[i]?)) (isC := [5, 6, 7, 8, 9, 10, 11, 12]) (isR := [0, 1, 2, 3, 4, 13, 14, 15, 16, 17, 18, 19, 20, 21, 22, 23, 24, 25, 26, 27, 28, 29, 30, 31, 32]) (pm := [0, 1, 2, 3, 4, 25, 26, 27, 28, 29, 30, 31, 32, 5, 6, 7, 8, 9, 10, 11, 12, 13, 14, 15, 16, 17, 18, 19, 20, 21, 22, 23, 24]) (w1' := (fun _ => (ow q B o ++ (hw q (B 1) h1 ++ (hw q (B 2) h2 ++ (hw q (B 3) h3 ++ (tw q (B 4) t ++ (sw q (B 5) g)))))))) C (rd_V C (k_X0_has l D q tt (B 1) h1 S N ((o_shelvedPeople o) j) (by first | assumption | omega) (by first | assumption | omega)) gX4_taken_X0_has rfl rfl rfl 1 ok_X0_has rfl 0 rfl rfl (rest := []) rfl rfl (Nat.le_of_ble_eq_true rfl) dX4_taken_85 ⟨(Nat.le_of_ble_eq_true rfl), (Nat.le_of_ble_eq_true rfl)⟩ ⟨(Nat.le_of_ble_eq_true rfl), (Nat.le_of_ble_eq_true rfl)⟩) rfl rfl rfl (fun _ => rfl) rfl (fun r_85 _ h_85 => ?_)
        obtain rfl := h_85
        refine g_ifneE C 94 dX4_taken_88 rfl rfl (fun c_88 => ?_) (fun c_88 => ?_)
        · obtain ⟨d, hd, ed, ecd⟩ := ix_lt (by omega) c_88
          obtain ⟨kd, hk5, hkd_⟩ := (hG.one hd).1
          refine g_aloadn C dX4_taken_94 3 rfl rfl ?_
          refine g_get C fx4 w_0 0 0 (v := .ref ((B 1) 0)) rfl (by decide) w_3 rfl dX4_taken_95 ?_
          refine g_get C fx0 w_4 5 1 (v := .ref ((B 1) 2)) rfl (by decide) w_5 rfl dX4_taken_98 ?_
          refine g_iload C dX4_taken_101 0 rfl ?_
          refine g_topci (nI d) (ed) ?_
          refine g_iald C 7 (d) (f := (hK h1)) rfl rfl (by omega) (by decide) dX4_taken_103 ?_
          refine g_topci (sK S d) (rS.K (by omega)) ?_
          refine g_topci (nI kd) (hkd_) ?_
          refine g_iloadn C dX4_taken_104 5 rfl rfl ?_
          refine g_call0i C (rd_S C (k_X4_isUnder l D q tt kd y (by first | assumption | omega)) gX4_taken_X4_isUnder rfl rfl rfl 2 ok_X4_isUnder (rest := []) rfl rfl (Nat.le_of_ble_eq_true rfl) dX4_taken_105 ⟨(Nat.le_of_ble_eq_true rfl), (Nat.le_of_ble_eq_true rfl)⟩ ⟨(Nat.le_of_ble_eq_true rfl), (Nat.le_of_ble_eq_true rfl)⟩) (fun _ => rfl) (fun r_105 _ h_105 => ?_)
          obtain rfl := h_105
          refine g_ifeqE C 116 dX4_taken_108 rfl rfl (fun c_108 => ?_) (fun c_108 => ?_)
          · refine g_bipush C (-13) dX4_taken_116 (by decide) ?_
            exact g_iret C () hr dX4_taken_118 (Nat.le_of_ble_eq_true rfl) (Nat.le_of_ble_eq_true rfl) rfl (by have hg_ : tkG x y := ⟨c_14, Or.inl c_25⟩; unfold R_takA; rw [if_pos hg_, ec, if_pos (show 0 ≤ (o_shelvedPeople o) j ∧ (o_shelvedPeople o) j < S 0 by rw [hS0]; exact c_88), ecd, if_neg (fun h => c_108 (by rw [← hkd_]; exact h))])
          · refine g_iload C dX4_taken_111 0 rfl ?_
            refine g_goto C 118 dX4_taken_113 rfl ?_
            exact g_iret C () hr dX4_taken_118 (Nat.le_of_ble_eq_true rfl) (Nat.le_of_ble_eq_true rfl) rfl (by have hg_ : tkG x y := ⟨c_14, Or.inl c_25⟩; unfold R_takA; rw [if_pos hg_, ec, if_pos (show 0 ≤ (o_shelvedPeople o) j ∧ (o_shelvedPeople o) j < S 0 by rw [hS0]; exact c_88), ecd, if_pos (show unS (sK S d) y by rw [hkd_]; exact c_108)])
        · refine g_bipush C (-11) dX4_taken_91 (by decide) ?_
          exact g_iret C () hr dX4_taken_93 (Nat.le_of_ble_eq_true rfl) (Nat.le_of_ble_eq_true rfl) rfl (by have hg_ : tkG x y := ⟨c_14, Or.inl c_25⟩; unfold R_takA; rw [if_pos hg_, ec, if_neg (fun h => c_88 (by rw [hS0] at h; exact h))])
      · refine g_iconst C (-1) dX4_taken_28 (by decide) ?_
        exact g_iret C () hr dX4_taken_29 (Nat.le_of_ble_eq_true rfl) (Nat.le_of_ble_eq_true rfl) rfl (by have hn_ : ¬ tkG x y := fun h => (by rcases h.2 with h_ | h_ <;> first | exact c_25 h_ | exact c_18 h_); unfold R_takA; rw [if_neg hn_])

