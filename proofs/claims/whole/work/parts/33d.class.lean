set_option maxRecDepth 100000 in
set_option maxHeartbeats 4000000 in
theorem k_X1_init (l : Launch) (D : va_G) (q : Nat → ClassId) (tt : Nat → Nat) (xa : Nat) (ya : Nat) (so : Int32) (s0 : Int32)  : MV l D q tt yX1_init wsX1_init ({ frames := 1, cells := 0, slots := 0, locals := 20 } : Room) [.ref xa, .int so, .ref ya] (([(xa, .inr (1, [.int s0, .null]))] : va_W)) (fun (u : Unit) => True) (fun (_ : Unit) => (([(xa, .inr (1, [.int so, .ref ya]))] : va_W))) 0 0 := by
  refine MV.of RX1 [(0, .ref xa), (1, .int so), (2, .ref ya)] (by decide) rfl rfl (Nat.le_of_ble_eq_true rfl) rfl ?_
  intro p e s m args below meth c A C hr hnm
  have w_0 : Cond.methodLink RX1 1 objectInit ∈ wsX1_init := by decide +kernel
  have w_1 : Cond.instanceMethod objectInit ∈ wsX1_init := by decide +kernel
  have w_2 : Cond.code objectInit ⟨#[0xb1]⟩ 1 none ∈ wsX1_init := by decide +kernel
  have w_3 : ∀ w ∈ u_ws RX1 TX1 2, w ∈ wsX1_init := by decide +kernel
  have w_4 : Cond.fieldLink RX1 7 (TX1 0).1 (TX1 0).2.1 (TX1 0).2.2.1 ∈ wsX1_init := by decide +kernel
  have w_5 : Cond.fieldLink RX1 13 (TX1 1).1 (TX1 1).2.1 (TX1 1).2.2.1 ∈ wsX1_init := by decide +kernel
  refine g_aloadn C dX1_init_0 0 rfl rfl ?_
  refine g_objInit C w_0 w_1 w_2 (Nat.le_of_ble_eq_true rfl) (Nat.le_of_ble_eq_true rfl) dX1_init_1 ?_
  refine g_aloadn C dX1_init_4 0 rfl rfl ?_
  refine g_iloadn C dX1_init_5 1 rfl rfl ?_
  refine g_putF C fx1 w_3 0 0 rfl (by decide) w_4 rfl hnm rfl rfl rfl (Nat.le_of_ble_eq_true rfl) dX1_init_6 (([(xa, .inr (1, [.int so, .null]))] : va_W)) rfl ?_
  refine g_aloadn C dX1_init_9 0 rfl rfl ?_
  refine g_aloadn C dX1_init_10 2 rfl rfl ?_
  refine g_putF C fx1 w_3 0 1 rfl (by decide) w_5 rfl hnm rfl rfl rfl (Nat.le_of_ble_eq_true rfl) dX1_init_11 (([(xa, .inr (1, [.int so, .ref ya]))] : va_W)) rfl ?_
  exact g_vret C () hr dX1_init_14 (Nat.le_of_ble_eq_true rfl) (Nat.le_of_ble_eq_true rfl) rfl (trivial)

set_option maxRecDepth 100000 in
set_option maxHeartbeats 4000000 in
theorem k_X1_narrowed (l : Launch) (D : va_G) (q : Nat → ClassId) (tt : Nat → Nat) (xa : Nat) (ya : Nat) (so : Int32) (z : Int32)  : ML l D q tt yX1_narrowed wsX1_narrowed ({ frames := 0, cells := 0, slots := 0, locals := 0 } : Room) [.ref xa, .int z] (([(xa, .inr (1, [.int so, .ref ya]))] : va_W)) (fun (r : Int64) (u : Unit) => r = ((nwS so z).toInt64)) (fun (_ : Unit) => (([(xa, .inr (1, [.int so, .ref ya]))] : va_W))) 0 0 := by
  refine ML.of RX1 [(0, .ref xa), (1, .int z)] (by decide) rfl rfl (Nat.le_of_ble_eq_true rfl) rfl ?_
  intro p e s m args below meth c A C hr hnm
  have w_0 : ∀ w ∈ u_ws RX1 TX1 2, w ∈ wsX1_narrowed := by decide +kernel
  have w_1 : Cond.fieldLink RX1 7 (TX1 0).1 (TX1 0).2.1 (TX1 0).2.2.1 ∈ wsX1_narrowed := by decide +kernel
  refine g_aloadn C dX1_narrowed_0 0 rfl rfl ?_
  refine g_get C fx1 w_0 0 0 (v := .int so) rfl (by decide) w_1 rfl dX1_narrowed_1 ?_
  by_cases s_4_0 : so = 0
  · refine g_lsw C 32 dX1_narrowed_4 (by decide) (off := 28) (by rw [s_4_0]; rfl) rfl ?_
    refine g_iloadn C dX1_narrowed_32 1 rfl rfl ?_
    refine g_i2b C dX1_narrowed_33 ?_
    refine g_i2l C dX1_narrowed_34 ?_
    exact g_lret C () hr dX1_narrowed_35 (Nat.le_of_ble_eq_true rfl) (Nat.le_of_ble_eq_true rfl) rfl (by unfold nwS; rw [if_pos s_4_0])
  by_cases s_4_1 : so = 1
  · refine g_lsw C 36 dX1_narrowed_4 (by decide) (off := 32) (by rw [s_4_1]; rfl) rfl ?_
    refine g_iloadn C dX1_narrowed_36 1 rfl rfl ?_
    refine g_i2s C dX1_narrowed_37 ?_
    refine g_i2l C dX1_narrowed_38 ?_
    exact g_lret C () hr dX1_narrowed_39 (Nat.le_of_ble_eq_true rfl) (Nat.le_of_ble_eq_true rfl) rfl (by unfold nwS; rw [if_neg s_4_0, if_pos s_4_1])
  refine g_lsw C 40 dX1_narrowed_4 (by decide) (off := 36) (by rw [lv_osw s_4_0 (by decide), lv_osw s_4_1 (by decide)]; rfl) rfl ?_
  refine g_iloadn C dX1_narrowed_40 1 rfl rfl ?_
  refine g_i2l C dX1_narrowed_41 ?_
  exact g_lret C () hr dX1_narrowed_42 (Nat.le_of_ble_eq_true rfl) (Nat.le_of_ble_eq_true rfl) rfl (by unfold nwS; rw [if_neg s_4_0, if_neg s_4_1])

