set_option maxRecDepth 100000 in
set_option maxHeartbeats 4000000 in
theorem k_X2_init (l : Launch) (D : va_G) (q : Nat → ClassId) (tt : Nat → Nat) (xa : Nat)  : MV l D q tt yX2_init wsX2_init ({ frames := 1, cells := 1, slots := 30, locals := 20 } : Room) [.ref xa] (([(xa, .inr (2, [.null, .int 0, .int 0, .int 0, .int 0, .int 0]))] : va_W)) (fun (u : Nat → Nat) => u 0 = xa) (fun u => (sw q u ((fun _ => 0), 0, 0, 0, 0, 0))) 1 30 := by
  refine MV.of RX2 [(0, .ref xa)] (by decide) rfl rfl (Nat.le_of_ble_eq_true rfl) rfl ?_
  intro p e s m args below meth c A C hr hnm
  have w_0 : Cond.methodLink RX2 3 objectInit ∈ wsX2_init := by decide +kernel
  have w_1 : Cond.instanceMethod objectInit ∈ wsX2_init := by decide +kernel
  have w_2 : Cond.code objectInit ⟨#[0xb1]⟩ 1 none ∈ wsX2_init := by decide +kernel
  have w_3 : Cond.arrayClass .int ∈ wsX2_init := by decide +kernel
  have w_4 : ∀ w ∈ u_ws RX2 TX2 6, w ∈ wsX2_init := by decide +kernel
  have w_5 : Cond.fieldLink RX2 11 (TX2 0).1 (TX2 0).2.1 (TX2 0).2.2.1 ∈ wsX2_init := by decide +kernel
  have w_6 : Cond.fieldLink RX2 15 (TX2 1).1 (TX2 1).2.1 (TX2 1).2.2.1 ∈ wsX2_init := by decide +kernel
  have w_7 : Cond.fieldLink RX2 19 (TX2 2).1 (TX2 2).2.1 (TX2 2).2.2.1 ∈ wsX2_init := by decide +kernel
  have w_8 : Cond.fieldLink RX2 22 (TX2 3).1 (TX2 3).2.1 (TX2 3).2.2.1 ∈ wsX2_init := by decide +kernel
  have w_9 : Cond.fieldLink RX2 25 (TX2 4).1 (TX2 4).2.1 (TX2 4).2.2.1 ∈ wsX2_init := by decide +kernel
  have w_10 : Cond.fieldLink RX2 28 (TX2 5).1 (TX2 5).2.1 (TX2 5).2.2.1 ∈ wsX2_init := by decide +kernel
  refine g_aloadn C dX2_init_0 0 rfl rfl ?_
  refine g_objInit C w_0 w_1 w_2 (Nat.le_of_ble_eq_true rfl) (Nat.le_of_ble_eq_true rfl) dX2_init_1 ?_
  refine g_aloadn C dX2_init_4 0 rfl rfl ?_
  refine g_bipush C 30 dX2_init_5 (by decide) ?_
  refine g_newaI C (30) rfl (by omega) w_3 (Nat.le_of_ble_eq_true rfl) (Nat.le_of_ble_eq_true rfl) dX2_init_7 (fun z_7 => ?_)
  show G p l e _ s m args below meth c 1 D A _ 9 [(0, .ref xa)] [.ref z_7, .ref xa] (([(xa, .inr (2, [.null, .int 0, .int 0, .int 0, .int 0, .int 0]))] : va_W) ++ (([(z_7, aI (q 0) 30 (fun _ => 0))] : va_W))) _ _
  refine g_putF C fx2 w_4 0 0 rfl (by decide) w_5 rfl hnm rfl rfl rfl (Nat.le_of_ble_eq_true rfl) dX2_init_9 (([(xa, .inr (2, [.ref z_7, .int 0, .int 0, .int 0, .int 0, .int 0]))] : va_W) ++ (([(z_7, aI (q 0) 30 (fun _ => 0))] : va_W))) rfl ?_
  refine g_aloadn C dX2_init_12 0 rfl rfl ?_
  refine g_iconst C 0 dX2_init_13 (by decide) ?_
  refine g_put C fx2 w_4 0 1 rfl (by decide) w_6 rfl rfl rfl (Nat.le_of_ble_eq_true rfl) dX2_init_14 (([(xa, .inr (2, [.ref z_7, .int 0, .int 0, .int 0, .int 0, .int 0]))] : va_W) ++ (([(z_7, aI (q 0) 30 (fun _ => 0))] : va_W))) rfl ?_
  refine g_aloadn C dX2_init_17 0 rfl rfl ?_
  refine g_iconst C 0 dX2_init_18 (by decide) ?_
  refine g_put C fx2 w_4 0 2 rfl (by decide) w_7 rfl rfl rfl (Nat.le_of_ble_eq_true rfl) dX2_init_19 (([(xa, .inr (2, [.ref z_7, .int 0, .int 0, .int 0, .int 0, .int 0]))] : va_W) ++ (([(z_7, aI (q 0) 30 (fun _ => 0))] : va_W))) rfl ?_
  refine g_aloadn C dX2_init_22 0 rfl rfl ?_
  refine g_iconst C 0 dX2_init_23 (by decide) ?_
  refine g_put C fx2 w_4 0 3 rfl (by decide) w_8 rfl rfl rfl (Nat.le_of_ble_eq_true rfl) dX2_init_24 (([(xa, .inr (2, [.ref z_7, .int 0, .int 0, .int 0, .int 0, .int 0]))] : va_W) ++ (([(z_7, aI (q 0) 30 (fun _ => 0))] : va_W))) rfl ?_
  refine g_aloadn C dX2_init_27 0 rfl rfl ?_
  refine g_iconst C 0 dX2_init_28 (by decide) ?_
  refine g_put C fx2 w_4 0 4 rfl (by decide) w_9 rfl rfl rfl (Nat.le_of_ble_eq_true rfl) dX2_init_29 (([(xa, .inr (2, [.ref z_7, .int 0, .int 0, .int 0, .int 0, .int 0]))] : va_W) ++ (([(z_7, aI (q 0) 30 (fun _ => 0))] : va_W))) rfl ?_
  refine g_aloadn C dX2_init_32 0 rfl rfl ?_
  refine g_iconst C 0 dX2_init_33 (by decide) ?_
  refine g_put C fx2 w_4 0 5 rfl (by decide) w_10 rfl rfl rfl (Nat.le_of_ble_eq_true rfl) dX2_init_34 (([(xa, .inr (2, [.ref z_7, .int 0, .int 0, .int 0, .int 0, .int 0]))] : va_W) ++ (([(z_7, aI (q 0) 30 (fun _ => 0))] : va_W))) rfl ?_
  exact g_vret C (aL [xa, z_7]) hr dX2_init_37 (Nat.le_of_ble_eq_true rfl) (Nat.le_of_ble_eq_true rfl) rfl (rfl)

