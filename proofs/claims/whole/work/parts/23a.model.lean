set_option maxRecDepth 100000 in
set_option maxHeartbeats 4000000 in
theorem k_X5_isRow (l : Launch) (D : va_G) (q : Nat → ClassId) (tt : Nat → Nat) (a : Nat → Nat) (v : MC) (rn : Nat) (x : Int32) (y : Int32) (hrn : (m_rowN v) = nI rn) (hr10 : rn ≤ 10) : MI l D q tt yX5_isRow wsX5_isRow ({ frames := 1, cells := 0, slots := 0, locals := 25 } : Room) [.ref (a 0), .int x, .int y] (mw q a v) (fun (r : Int32) (u : Unit) => r = (bI ((0 ≤ x ∧ x < (nI rn)) ∧ (0 ≤ y ∧ y ≤ 2)))) (fun (_ : Unit) => (mw q a v)) 0 0 := by
  refine MI.of RX5 [(0, .ref (a 0)), (1, .int x), (2, .int y)] (by decide) rfl rfl (Nat.le_of_ble_eq_true rfl) rfl ?_
  intro p e s m args below meth c A C hr hnm
  have w_0 : ∀ w ∈ u_ws RX5 TX5 29, w ∈ wsX5_isRow := by decide +kernel
  have w_1 : Cond.fieldLink RX5 149 (TX5 16).1 (TX5 16).2.1 (TX5 16).2.2.1 ∈ wsX5_isRow := by decide +kernel
  have w_2 : Cond.constantLong RX5 181 (2) ∈ wsX5_isRow := by decide +kernel
  refine g_iloadn C dX5_isRow_0 1 rfl rfl ?_
  refine g_i2l C dX5_isRow_1 ?_
  refine g_lconst C 0 dX5_isRow_2 (by decide) ?_
  refine g_aloadn C dX5_isRow_3 0 rfl rfl ?_
  refine g_get C fx5 w_0 0 16 (v := .int (m_rowN v)) rfl (by decide) w_1 rfl dX5_isRow_4 ?_
  refine g_topci (nI rn) (hrn) ?_
  refine g_iconst C 1 dX5_isRow_7 (by decide) ?_
  refine g_isub C dX5_isRow_8 ?_
  refine g_i2l C dX5_isRow_9 ?_
  refine g_call0i C (rd_S C (k_isIn32 l D q tt (x) 0 ((nI rn) - 1) 0 ((((nI rn) - 1)).toInt64) (by first | rfl | decide) rfl) gX5_isRow_X5_isIn rfl rfl rfl 3 ok_X5_isIn (rest := []) rfl rfl (Nat.le_of_ble_eq_true rfl) dX5_isRow_10 ⟨(Nat.le_of_ble_eq_true rfl), (Nat.le_of_ble_eq_true rfl)⟩ ⟨(Nat.le_of_ble_eq_true rfl), (Nat.le_of_ble_eq_true rfl)⟩) (fun _ => rfl) (fun r_10 _ h_10 => ?_)
  obtain rfl := h_10
  refine g_topci (bI (0 ≤ x ∧ x < (nI rn))) (bI_congr (and_congr Iff.rfl (le_pred hr10))) ?_
  refine g_ifeqE C 32 dX5_isRow_13 rfl rfl (fun c_13 => ?_) (fun c_13 => ?_)
  · refine g_iconst C 0 dX5_isRow_32 (by decide) ?_
    exact g_zret C () hr rfl dX5_isRow_33 (Nat.le_of_ble_eq_true rfl) (Nat.le_of_ble_eq_true rfl) rfl ((bI_n (fun z => by first | exact c_13 z.1 | exact c_25 z.2)).symm)
  · refine g_iloadn C dX5_isRow_16 2 rfl rfl ?_
    refine g_i2l C dX5_isRow_17 ?_
    refine g_lconst C 0 dX5_isRow_18 (by decide) ?_
    refine g_ldc2 C (2) dX5_isRow_19 w_2 ?_
    refine g_call0i C (rd_S C (k_isIn32 l D q tt (y) 0 (2) 0 (2) (by first | rfl | decide) (by first | rfl | decide)) gX5_isRow_X5_isIn rfl rfl rfl 3 ok_X5_isIn (rest := []) rfl rfl (Nat.le_of_ble_eq_true rfl) dX5_isRow_22 ⟨(Nat.le_of_ble_eq_true rfl), (Nat.le_of_ble_eq_true rfl)⟩ ⟨(Nat.le_of_ble_eq_true rfl), (Nat.le_of_ble_eq_true rfl)⟩) (fun _ => rfl) (fun r_22 _ h_22 => ?_)
    obtain rfl := h_22
    refine g_ifeqE C 32 dX5_isRow_25 rfl rfl (fun c_25 => ?_) (fun c_25 => ?_)
    · refine g_iconst C 0 dX5_isRow_32 (by decide) ?_
      exact g_zret C () hr rfl dX5_isRow_33 (Nat.le_of_ble_eq_true rfl) (Nat.le_of_ble_eq_true rfl) rfl ((bI_n (fun z => by first | exact c_13 z.1 | exact c_25 z.2)).symm)
    · refine g_iconst C 1 dX5_isRow_28 (by decide) ?_
      refine g_goto C 33 dX5_isRow_29 rfl ?_
      exact g_zret C () hr rfl dX5_isRow_33 (Nat.le_of_ble_eq_true rfl) (Nat.le_of_ble_eq_true rfl) rfl ((bI_t ⟨c_13, c_25⟩).symm)

