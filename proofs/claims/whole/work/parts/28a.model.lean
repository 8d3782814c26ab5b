set_option maxRecDepth 100000 in
set_option maxHeartbeats 4000000 in
theorem k_X5_trace (l : Launch) (D : va_G) (q : Nat → ClassId) (tt : Nat → Nat) (a : Nat → Nat) (v : MC) (c0 : Nat) (x : Int32) (hc : (m_ran v) = nI c0) (hc30 : c0 ≤ 30) : MI l D q tt yX5_trace wsX5_trace ({ frames := 1, cells := 0, slots := 0, locals := 25 } : Room) [.ref (a 0), .int x] (mw q a v) (fun (r : Int32) (u : Unit) => r = R_trace (m_bodies v) c0 x) (fun (_ : Unit) => (mw q a v)) 0 0 := by
  refine MI.of RX5 [(0, .ref (a 0)), (1, .int x)] (by decide) rfl rfl (Nat.le_of_ble_eq_true rfl) rfl ?_
  intro p e s m args below meth c A C hr hnm
  have w_0 : ∀ w ∈ u_ws RX5 TX5 29, w ∈ wsX5_trace := by decide +kernel
  have w_1 : Cond.fieldLink RX5 289 (TX5 24).1 (TX5 24).2.1 (TX5 24).2.2.1 ∈ wsX5_trace := by decide +kernel
  have w_2 : Cond.fieldLink RX5 56 (TX5 23).1 (TX5 23).2.1 (TX5 23).2.2.1 ∈ wsX5_trace := by decide +kernel
  refine g_iloadn C dX5_trace_0 1 rfl rfl ?_
  refine g_i2l C dX5_trace_1 ?_
  refine g_lconst C 0 dX5_trace_2 (by decide) ?_
  refine g_aloadn C dX5_trace_3 0 rfl rfl ?_
  refine g_get C fx5 w_0 0 24 (v := .int (m_ran v)) rfl (by decide) w_1 rfl dX5_trace_4 ?_
  refine g_topci (nI c0) (hc) ?_
  refine g_iconst C 1 dX5_trace_7 (by decide) ?_
  refine g_isub C dX5_trace_8 ?_
  refine g_i2l C dX5_trace_9 ?_
  refine g_call0i C (rd_S C (k_isIn32 l D q tt (x) 0 ((nI c0) - 1) 0 ((((nI c0) - 1)).toInt64) (by first | rfl | decide) rfl) gX5_trace_X5_isIn rfl rfl rfl 3 ok_X5_isIn (rest := []) rfl rfl (Nat.le_of_ble_eq_true rfl) dX5_trace_10 ⟨(Nat.le_of_ble_eq_true rfl), (Nat.le_of_ble_eq_true rfl)⟩ ⟨(Nat.le_of_ble_eq_true rfl), (Nat.le_of_ble_eq_true rfl)⟩) (fun _ => rfl) (fun r_10 _ h_10 => ?_)
  obtain rfl := h_10
  refine g_topci (bI (0 ≤ x ∧ x < (nI c0))) (bI_congr (and_congr Iff.rfl (le_pred2 (by omega)))) ?_
  refine g_ifeqE C 25 dX5_trace_13 rfl rfl (fun c_13 => ?_) (fun c_13 => ?_)
  · refine g_bipush C (-3) dX5_trace_25 (by decide) ?_
    exact g_iret C () hr dX5_trace_27 (Nat.le_of_ble_eq_true rfl) (Nat.le_of_ble_eq_true rfl) rfl (by unfold R_trace; rw [if_neg c_13])
  · obtain ⟨j, hj, ej, ec⟩ := ix_lt (by omega) c_13
    refine g_aloadn C dX5_trace_16 0 rfl rfl ?_
    refine g_get C fx5 w_0 0 23 (v := .ref (a 16)) rfl (by decide) w_2 rfl dX5_trace_17 ?_
    refine g_iloadn C dX5_trace_20 1 rfl rfl ?_
    refine g_topci (nI j) (ej) ?_
    refine g_iald C 16 (j) (f := (m_bodies v)) rfl rfl (by omega) (by decide) dX5_trace_21 ?_
    refine g_goto C 27 dX5_trace_22 rfl ?_
    exact g_iret C () hr dX5_trace_27 (Nat.le_of_ble_eq_true rfl) (Nat.le_of_ble_eq_true rfl) rfl (by unfold R_trace; rw [if_pos c_13, ec])

