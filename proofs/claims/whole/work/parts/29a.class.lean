set_option maxRecDepth 100000 in
set_option maxHeartbeats 4000000 in
theorem k_X4_trace (l : Launch) (D : va_G) (q : Nat → ClassId) (tt : Nat → Nat) (B : Nat → Nat → Nat) (o : OC) (h1 : HC) (h2 : HC) (h3 : HC) (t : TC) (g : GC) (c0 : Nat) (x : Int32) (hc : (gN g) = nI c0) (hc30 : c0 ≤ 30) : MI l D q tt yX4_trace wsX4_trace ({ frames := 1, cells := 0, slots := 0, locals := 22 } : Room) [.ref ((B 0) 0), .int x] (ow q B o ++ (hw q (B 1) h1 ++ (hw q (B 2) h2 ++ (hw q (B 3) h3 ++ (tw q (B 4) t ++ (sw q (B 5) g)))))) (fun (r : Int32) (u : Unit) => r = R_trace (gB g) c0 x) (fun (_ : Unit) => (ow q B o ++ (hw q (B 1) h1 ++ (hw q (B 2) h2 ++ (hw q (B 3) h3 ++ (tw q (B 4) t ++ (sw q (B 5) g))))))) 0 0 := by
  refine MI.of RX4 [(0, .ref ((B 0) 0)), (1, .int x)] (by decide) rfl rfl (Nat.le_of_ble_eq_true rfl) rfl ?_
  intro p e s m args below meth c A C hr hnm
  have w_0 : ∀ w ∈ u_ws RX4 TX4 11, w ∈ wsX4_trace := by decide +kernel
  have w_1 : Cond.fieldLink RX4 36 (TX4 5).1 (TX4 5).2.1 (TX4 5).2.2.1 ∈ wsX4_trace := by decide +kernel
  have w_2 : ∀ w ∈ u_ws RX2 TX2 6, w ∈ wsX4_trace := by decide +kernel
  have w_3 : Cond.fieldLink RX4 259 (TX2 1).1 (TX2 1).2.1 (TX2 1).2.2.1 ∈ wsX4_trace := by decide +kernel
  have w_4 : Cond.fieldLink RX4 262 (TX2 0).1 (TX2 0).2.1 (TX2 0).2.2.1 ∈ wsX4_trace := by decide +kernel
  refine g_iloadn C dX4_trace_0 1 rfl rfl ?_
  refine g_iconst C 0 dX4_trace_1 (by decide) ?_
  refine g_aloadn C dX4_trace_2 0 rfl rfl ?_
  refine g_get C fx4 w_0 0 5 (v := .ref ((B 5) 0)) rfl (by decide) w_1 rfl dX4_trace_3 ?_
  refine g_get C fx2 w_2 31 1 (v := .int (gN g)) rfl (by decide) w_3 rfl dX4_trace_6 ?_
  refine g_topci (nI c0) (hc) ?_
  refine g_iconst C 1 dX4_trace_9 (by decide) ?_
  refine g_isub C dX4_trace_10 ?_
  refine g_call0i C (rd_S C (k_X4_within l D q tt x 0 ((nI c0) - 1) ) gX4_trace_X4_within rfl rfl rfl 3 ok_X4_within (rest := []) rfl rfl (Nat.le_of_ble_eq_true rfl) dX4_trace_11 ⟨(Nat.le_of_ble_eq_true rfl), (Nat.le_of_ble_eq_true rfl)⟩ ⟨(Nat.le_of_ble_eq_true rfl), (Nat.le_of_ble_eq_true rfl)⟩) (fun _ => rfl) (fun r_11 _ h_11 => ?_)
  obtain rfl := h_11
  refine g_topci (bI (0 ≤ x ∧ x < (nI c0))) (bI_congr (and_congr Iff.rfl (le_pred2 (by omega)))) ?_
  refine g_ifeqE C 29 dX4_trace_14 rfl rfl (fun c_14 => ?_) (fun c_14 => ?_)
  · refine g_bipush C (-3) dX4_trace_29 (by decide) ?_
    exact g_iret C () hr dX4_trace_31 (Nat.le_of_ble_eq_true rfl) (Nat.le_of_ble_eq_true rfl) rfl (by unfold R_trace; rw [if_neg c_14])
  · obtain ⟨j, hj, ej, ec⟩ := ix_lt (by omega) c_14
    refine g_aloadn C dX4_trace_17 0 rfl rfl ?_
    refine g_get C fx4 w_0 0 5 (v := .ref ((B 5) 0)) rfl (by decide) w_1 rfl dX4_trace_18 ?_
    refine g_get C fx2 w_2 31 0 (v := .ref ((B 5) 1)) rfl (by decide) w_4 rfl dX4_trace_21 ?_
    refine g_iloadn C dX4_trace_24 1 rfl rfl ?_
    refine g_topci (nI j) (ej) ?_
    refine g_iald C 32 (j) (f := (gB g)) rfl rfl (by omega) (by decide) dX4_trace_25 ?_
    refine g_goto C 31 dX4_trace_26 rfl ?_
    exact g_iret C () hr dX4_trace_31 (Nat.le_of_ble_eq_true rfl) (Nat.le_of_ble_eq_true rfl) rfl (by unfold R_trace; rw [if_pos c_14, ec])

