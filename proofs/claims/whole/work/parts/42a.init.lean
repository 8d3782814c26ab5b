set_option maxRecDepth 100000 in
set_option maxHeartbeats 4000000 in
theorem k_X0_init (l : Launch) (D : va_G) (q : Nat → ClassId) (tt : Nat → Nat) (xa : Nat)  : MV l D q tt yX0_init wsX0_init ({ frames := 2, cells := 7, slots := 52, locals := 80 } : Room) [.ref xa] (([(xa, .inr (0, [.null, .null, .null, .null, .null, .int 0, .int 0, .int 0, .int 0, .null, .null]))] : va_W)) (fun (u : Nat → Nat) => u 0 = xa) (fun u => (hw q u ((va_cpy (fun z => tLF.getD z 0) (fun _ => 0) 0 0 4), (fun _ => 0), (fun _ => 0), (fun _ => 0), (fun _ => 0), 0, 0, 0, 1, (fun _ => 0), (fun _ => 0)))) 7 52 := by
  refine MV.of RX0 [(0, .ref xa)] (by decide) rfl rfl (Nat.le_of_ble_eq_true rfl) rfl ?_
  intro p e s m args below meth c A C hr hnm
  have w_0 : Cond.methodLink RX0 3 objectInit ∈ wsX0_init := by decide +kernel
  have w_1 : Cond.instanceMethod objectInit ∈ wsX0_init := by decide +kernel
  have w_2 : Cond.code objectInit ⟨#[0xb1]⟩ 1 none ∈ wsX0_init := by decide +kernel
  have w_3 : Cond.arrayClass .int ∈ wsX0_init := by decide +kernel
  have w_4 : ∀ w ∈ u_ws RX0 TX0 11, w ∈ wsX0_init := by decide +kernel
  have w_5 : Cond.fieldLink RX0 9 (TX0 0).1 (TX0 0).2.1 (TX0 0).2.2.1 ∈ wsX0_init := by decide +kernel
  have w_6 : Cond.fieldLink RX0 15 (TX0 1).1 (TX0 1).2.1 (TX0 1).2.2.1 ∈ wsX0_init := by decide +kernel
  have w_7 : Cond.fieldLink RX0 18 (TX0 2).1 (TX0 2).2.1 (TX0 2).2.2.1 ∈ wsX0_init := by decide +kernel
  have w_8 : Cond.fieldLink RX0 21 (TX0 3).1 (TX0 3).2.1 (TX0 3).2.2.1 ∈ wsX0_init := by decide +kernel
  have w_9 : Cond.fieldLink RX0 24 (TX0 4).1 (TX0 4).2.1 (TX0 4).2.2.1 ∈ wsX0_init := by decide +kernel
  have w_10 : Cond.fieldLink RX0 27 (TX0 9).1 (TX0 9).2.1 (TX0 9).2.2.1 ∈ wsX0_init := by decide +kernel
  have w_11 : Cond.fieldLink RX0 30 (TX0 10).1 (TX0 10).2.1 (TX0 10).2.2.1 ∈ wsX0_init := by decide +kernel
  have w_12 : Cond.fieldLink RX0 33 (TX0 8).1 (TX0 8).2.1 (TX0 8).2.2.1 ∈ wsX0_init := by decide +kernel
  refine g_aloadn C dX0_init_0 0 rfl rfl ?_
  refine g_objInit C w_0 w_1 w_2 (Nat.le_of_ble_eq_true rfl) (Nat.le_of_ble_eq_true rfl) dX0_init_1 ?_
  refine g_aloadn C dX0_init_4 0 rfl rfl ?_
  refine g_iconst C 4 dX0_init_5 (by decide) ?_
  refine g_newaI C (4) rfl (by omega) w_3 (Nat.le_of_ble_eq_true rfl) (Nat.le_of_ble_eq_true rfl) dX0_init_6 (fun z_6 => ?_)
  show G p l e _ s m args below meth c 1 D A _ 8 [(0, .ref xa)] [.ref z_6, .ref xa] (([(xa, .inr (0, [.null, .null, .null, .null, .null, .int 0, .int 0, .int 0, .int 0, .null, .null]))] : va_W) ++ (([(z_6, aI (q 0) 4 (fun _ => 0))] : va_W))) _ _
  refine g_putF C fx0 w_4 0 0 rfl (by decide) w_5 rfl hnm rfl rfl rfl (Nat.le_of_ble_eq_true rfl) dX0_init_8 (([(xa, .inr (0, [.ref z_6, .null, .null, .null, .null, .int 0, .int 0, .int 0, .int 0, .null, .null]))] : va_W) ++ (([(z_6, aI (q 0) 4 (fun _ => 0))] : va_W))) rfl ?_
  refine g_aloadn C dX0_init_11 0 rfl rfl ?_
  refine g_bipush C 8 dX0_init_12 (by decide) ?_
  refine g_newaI C (8) rfl (by omega) w_3 (Nat.le_of_ble_eq_true rfl) (Nat.le_of_ble_eq_true rfl) dX0_init_14 (fun z_14 => ?_)
  show G p l e _ s m args below meth c 1 D A _ 16 [(0, .ref xa)] [.ref z_14, .ref xa] (([(xa, .inr (0, [.ref z_6, .null, .null, .null, .null, .int 0, .int 0, .int 0, .int 0, .null, .null]))] : va_W) ++ (([(z_6, aI (q 0) 4 (fun _ => 0))] : va_W) ++ (([(z_14, aI (q 0) 8 (fun _ => 0))] : va_W)))) _ _
  refine g_putF C fx0 w_4 0 1 rfl (by decide) w_6 rfl hnm rfl rfl rfl (Nat.le_of_ble_eq_true rfl) dX0_init_16 (([(xa, .inr (0, [.ref z_6, .ref z_14, .null, .null, .null, .int 0, .int 0, .int 0, .int 0, .null, .null]))] : va_W) ++ (([(z_6, aI (q 0) 4 (fun _ => 0))] : va_W) ++ (([(z_14, aI (q 0) 8 (fun _ => 0))] : va_W)))) rfl ?_
  refine g_aloadn C dX0_init_19 0 rfl rfl ?_
  refine g_bipush C 8 dX0_init_20 (by decide) ?_
  refine g_newaI C (8) rfl (by omega) w_3 (Nat.le_of_ble_eq_true rfl) (Nat.le_of_ble_eq_true rfl) dX0_init_22 (fun z_22 => ?_)
  show G p l e _ s m args below meth c 1 D A _ 24 [(0, .ref xa)] [.ref z_22, .ref xa] (([(xa, .inr (0, [.ref z_6, .ref z_14, .null, .null, .null, .int 0, .int 0, .int 0, .int 0, .null, .null]))] : va_W) ++ (([(z_6, aI (q 0) 4 (fun _ => 0))] : va_W) ++ (([(z_14, aI (q 0) 8 (fun _ => 0))] : va_W) ++ (([(z_22, aI (q 0) 8 (fun _ => 0))] : va_W))))) _ _
  refine g_putF C fx0 w_4 0 2 rfl (by decide) w_7 rfl hnm rfl rfl rfl (Nat.le_of_ble_eq_true rfl) dX0_init_24 (([(xa, .inr (0, [.ref z_6, .ref z_14, .ref z_22, .null, .null, .int 0, .int 0, .int 0, .int 0, .null, .null]))] : va_W) ++ (([(z_6, aI (q 0) 4 (fun _ => 0))] : va_W) ++ (([(z_14, aI (q 0) 8 (fun _ => 0))] : va_W) ++ (([(z_22, aI (q 0) 8 (fun _ => 0))] : va_W))))) rfl ?_
  refine g_aloadn C dX0_init_27 0 rfl rfl ?_
  refine g_bipush C 8 dX0_init_28 (by decide) ?_
  refine g_newaI C (8) rfl (by omega) w_3 (Nat.le_of_ble_eq_true rfl) (Nat.le_of_ble_eq_true rfl) dX0_init_30 (fun z_30 => ?_)
  show G p l e _ s m args below meth c 1 D A _ 32 [(0, .ref xa)] [.ref z_30, .ref xa] (([(xa, .inr (0, [.ref z_6, .ref z_14, .ref z_22, .null, .null, .int 0, .int 0, .int 0, .int 0, .null, .null]))] : va_W) ++ (([(z_6, aI (q 0) 4 (fun _ => 0))] : va_W) ++ (([(z_14, aI (q 0) 8 (fun _ => 0))] : va_W) ++ (([(z_22, aI (q 0) 8 (fun _ => 0))] : va_W) ++ (([(z_30, aI (q 0) 8 (fun _ => 0))] : va_W)))))) _ _
  refine g_putF C fx0 w_4 0 3 rfl (by decide) w_8 rfl hnm rfl rfl rfl (Nat.le_of_ble_eq_true rfl) dX0_init_32 (([(xa, .inr (0, [.ref z_6, .ref z_14, .ref z_22, .ref z_30, .null, .int 0, .int 0, .int 0, .int 0, .null, .null]))] : va_W) ++ (([(z_6, aI (q 0) 4 (fun _ => 0))] : va_W) ++ (([(z_14, aI (q 0) 8 (fun _ => 0))] : va_W) ++ (([(z_22, aI (q 0) 8 (fun _ => 0))] : va_W) ++ (([(z_30, aI (q 0) 8 (fun _ => 0))] : va_W)))))) rfl ?_
  refine g_aloadn C dX0_init_35 0 rfl rfl ?_
  refine g_bipush C 8 dX0_init_36 (by decide) ?_
  refine g_newaI C (8) rfl (by omega) w_3 (Nat.le_of_ble_eq_true rfl) (Nat.le_of_ble_eq_true rfl) dX0_init_38 (fun z_38 => ?_)
  show G p l e _ s m args below meth c 1 D A _ 40 [(0, .ref xa)] [.ref z_38, .ref xa] (([(xa, .inr (0, [.ref z_6, .ref z_14, .ref z_22, .ref z_30, .null, .int 0, .int 0, .int 0, .int 0, .null, .null]))] : va_W) ++ (([(z_6, aI (q 0) 4 (fun _ => 0))] : va_W) ++ (([(z_14, aI (q 0) 8 (fun _ => 0))] : va_W) ++ (([(z_22, aI (q 0) 8 (fun _ => 0))] : va_W) ++ (([(z_30, aI (q 0) 8 (fun _ => 0))] : va_W) ++ (([(z_38, aI (q 0) 8 (fun _ => 0))] : va_W))))))) _ _
  refine g_putF C fx0 w_4 0 4 rfl (by decide) w_9 rfl hnm rfl rfl rfl (Nat.le_of_ble_eq_true rfl) dX0_init_40 (([(xa, .inr (0, [.ref z_6, .ref z_14, .ref z_22, .ref z_30, .ref z_38, .int 0, .int 0, .int 0, .int 0, .null, .null]))] : va_W) ++ (([(z_6, aI (q 0) 4 (fun _ => 0))] : va_W) ++ (([(z_14, aI (q 0) 8 (fun _ => 0))] : va_W) ++ (([(z_22, aI (q 0) 8 (fun _ => 0))] : va_W) ++ (([(z_30, aI (q 0) 8 (fun _ => 0))] : va_W) ++ (([(z_38, aI (q 0) 8 (fun _ => 0))] : va_W))))))) rfl ?_
  refine g_aloadn C dX0_init_43 0 rfl rfl ?_
  refine g_bipush C 8 dX0_init_44 (by decide) ?_
  refine g_newaI C (8) rfl (by omega) w_3 (Nat.le_of_ble_eq_true rfl) (Nat.le_of_ble_eq_true rfl) dX0_init_46 (fun z_46 => ?_)
  show G p l e _ s m args below meth c 1 D A _ 48 [(0, .ref xa)] [.ref z_46, .ref xa] (([(xa, .inr (0, [.ref z_6, .ref z_14, .ref z_22, .ref z_30, .ref z_38, .int 0, .int 0, .int 0, .int 0, .null, .null]))] : va_W) ++ (([(z_6, aI (q 0) 4 (fun _ => 0))] : va_W) ++ (([(z_14, aI (q 0) 8 (fun _ => 0))] : va_W) ++ (([(z_22, aI (q 0) 8 (fun _ => 0))] : va_W) ++ (([(z_30, aI (q 0) 8 (fun _ => 0))] : va_W) ++ (([(z_38, aI (q 0) 8 (fun _ => 0))] : va_W) ++ (([(z_46, aI (q 0) 8 (fun _ => 0))] : va_W)))))))) _ _
  refine g_putF C fx0 w_4 0 9 rfl (by decide) w_10 rfl hnm rfl rfl rfl (Nat.le_of_ble_eq_true rfl) dX0_init_48 (([(xa, .inr (0, [.ref z_6, .ref z_14, .ref z_22, .ref z_30, .ref z_38, .int 0, .int 0, .int 0, .int 0, .ref z_46, .null]))] : va_W) ++ (([(z_6, aI (q 0) 4 (fun _ => 0))] : va_W) ++ (([(z_14, aI (q 0) 8 (fun _ => 0))] : va_W) ++ (([(z_22, aI (q 0) 8 (fun _ => 0))] : va_W) ++ (([(z_30, aI (q 0) 8 (fun _ => 0))] : va_W) ++ (([(z_38, aI (q 0) 8 (fun _ => 0))] : va_W) ++ (([(z_46, aI (q 0) 8 (fun _ => 0))] : va_W)))))))) rfl ?_
  refine g_aloadn C dX0_init_51 0 rfl rfl ?_
  refine g_bipush C 8 dX0_init_52 (by decide) ?_
  refine g_newaI C (8) rfl (by omega) w_3 (Nat.le_of_ble_eq_true rfl) (Nat.le_of_ble_eq_true rfl) dX0_init_54 (fun z_54 => ?_)
  show G p l e _ s m args below meth c 1 D A _ 56 [(0, .ref xa)] [.ref z_54, .ref xa] (([(xa, .inr (0, [.ref z_6, .ref z_14, .ref z_22, .ref z_30, .ref z_38, .int 0, .int 0, .int 0, .int 0, .ref z_46, .null]))] : va_W) ++ (([(z_6, aI (q 0) 4 (fun _ => 0))] : va_W) ++ (([(z_14, aI (q 0) 8 (fun _ => 0))] : va_W) ++ (([(z_22, aI (q 0) 8 (fun _ => 0))] : va_W) ++ (([(z_30, aI (q 0) 8 (fun _ => 0))] : va_W) ++ (([(z_38, aI (q 0) 8 (fun _ => 0))] : va_W) ++ (([(z_46, aI (q 0) 8 (fun _ => 0))] : va_W) ++ (([(z_54, aI (q 0) 8 (fun _ => 0))] : va_W))))))))) _ _
  refine g_putF C fx0 w_4 0 10 rfl (by decide) w_11 rfl hnm rfl rfl rfl (Nat.le_of_ble_eq_true rfl) dX0_init_56 (([(xa, .inr (0, [.ref z_6, .ref z_14, .ref z_22, .ref z_30, .ref z_38, .int 0, .int 0, .int 0, .int 0, .ref z_46, .ref z_54]))] : va_W) ++ (([(z_6, aI (q 0) 4 (fun _ => 0))] : va_W) ++ (([(z_14, aI (q 0) 8 (fun _ => 0))] : va_W) ++ (([(z_22, aI (q 0) 8 (fun _ => 0))] : va_W) ++ (([(z_30, aI (q 0) 8 (fun _ => 0))] : va_W) ++ (([(z_38, aI (q 0) 8 (fun _ => 0))] : va_W) ++ (([(z_46, aI (q 0) 8 (fun _ => 0))] : va_W) ++ (([(z_54, aI (q 0) 8 (fun _ => 0))] : va_W))))))))) rfl ?_
  refine g_aloadn C dX0_init_59 0 rfl rfl ?_
  refine g_iconst C 1 dX0_init_60 (by decide) ?_
  refine g_put C fx0 w_4 0 8 rfl (by decide) w_12 rfl rfl rfl (Nat.le_of_ble_eq_true rfl) dX0_init_61 (([(xa, .inr (0, [.ref z_6, .ref z_14, .ref z_22, .ref z_30, .ref z_38, .int 0, .int 0, .int 0, .int 1, .ref z_46, .ref z_54]))] : va_W) ++ (([(z_6, aI (q 0) 4 (fun _ => 0))] : va_W) ++ (([(z_14, aI (q 0) 8 (fun _ => 0))] : va_W) ++ (([(z_22, aI (q 0) 8 (fun _ => 0))] : va_W) ++ (([(z_30, aI (q 0) 8 (fun _ => 0))] : va_W) ++ (([(z_38, aI (q 0) 8 (fun _ => 0))] : va_W) ++ (([(z_46, aI (q 0) 8 (fun _ => 0))] : va_W) ++ (([(z_54, aI (q 0) 8 (fun _ => 0))] : va_W))))))))) rfl ?_
  refine g_wsc (hw q (aL [xa, z_6, z_14, z_22, z_30, z_38, z_46, z_54]) ((fun _ => 0), (fun _ => 0), (fun _ => 0), (fun _ => 0), (fun _ => 0), 0, 0, 0, 1, (fun _ => 0), (fun _ => 0))) rfl ?_
  refine g_lvc 0 (lv' := [(0, .ref ((aL [xa, z_6, z_14, z_22, z_30, z_38, z_46, z_54]) 0))]) rfl ?_
  refine g_aloadn C dX0_init_64 0 rfl rfl ?_
  refine g_callAv C (rd_V C (k_X0_clear l D q tt (aL [xa, z_6, z_14, z_22, z_30, z_38, z_46, z_54]) ((fun _ => 0), (fun _ => 0), (fun _ => 0), (fun _ => 0), (fun _ => 0), 0, 0, 0, 1, (fun _ => 0), (fun _ => 0)) ) gX0_init_X0_clear rfl rfl rfl 0 ok_X0_clear rfl 0 rfl rfl (rest := []) rfl rfl (Nat.le_of_ble_eq_true rfl) dX0_init_65 ⟨(Nat.le_of_ble_eq_true rfl), (Nat.le_of_ble_eq_true rfl)⟩ ⟨(Nat.le_of_ble_eq_true rfl), (Nat.le_of_ble_eq_true rfl)⟩) (fun _ h_65 => ?_)
  refine g_wsc (hw q (aL [xa, z_6, z_14, z_22, z_30, z_38, z_46, z_54]) ((va_cpy (fun z => tLF.getD z 0) (fun _ => 0) 0 0 4), (fun _ => 0), (fun _ => 0), (fun _ => 0), (fun _ => 0), 0, 0, 0, 1, (fun _ => 0), (fun _ => 0))) rfl ?_
  exact g_vret C (aL [xa, z_6, z_14, z_22, z_30, z_38, z_46, z_54]) hr dX0_init_68 (Nat.le_of_ble_eq_true rfl) (Nat.le_of_ble_eq_true rfl) rfl (rfl)

set_option maxRecDepth 100000 in
set_option maxHeartbeats 4000000 in
theorem k_X3_init (l : Launch) (D : va_G) (q : Nat → ClassId) (tt : Nat → Nat) (xa : Nat)  : MV l D q tt yX3_init wsX3_init ({ frames := 1, cells := 1, slots := 200, locals := 20 } : Room) [.ref xa] (([(xa, .inr (3, [.int 0, .null, .int 0, .int 0, .int 0]))] : va_W)) (fun (u : Nat → Nat) => u 0 = xa) (fun u => (tw q u (0, (fun _ => 0), 0, 0, 0))) 1 200 := by
  refine MV.of RX3 [(0, .ref xa)] (by decide) rfl rfl (Nat.le_of_ble_eq_true rfl) rfl ?_
  intro p e s m args below meth c A C hr hnm
  have w_0 : Cond.methodLink RX3 3 objectInit ∈ wsX3_init := by decide +kernel
  have w_1 : Cond.instanceMethod objectInit ∈ wsX3_init := by decide +kernel
  have w_2 : Cond.code objectInit ⟨#[0xb1]⟩ 1 none ∈ wsX3_init := by decide +kernel
  have w_3 : ∀ w ∈ u_ws RX3 TX3 5, w ∈ wsX3_init := by decide +kernel
  have w_4 : Cond.fieldLink RX3 9 (TX3 0).1 (TX3 0).2.1 (TX3 0).2.2.1 ∈ wsX3_init := by decide +kernel
  have w_5 : Cond.arrayClass .byte ∈ wsX3_init := by decide +kernel
  have w_6 : Cond.fieldLink RX3 15 (TX3 1).1 (TX3 1).2.1 (TX3 1).2.2.1 ∈ wsX3_init := by decide +kernel
  have w_7 : Cond.fieldLink RX3 19 (TX3 2).1 (TX3 2).2.1 (TX3 2).2.2.1 ∈ wsX3_init := by decide +kernel
  have w_8 : Cond.fieldLink RX3 22 (TX3 3).1 (TX3 3).2.1 (TX3 3).2.2.1 ∈ wsX3_init := by decide +kernel
  have w_9 : Cond.fieldLink RX3 25 (TX3 4).1 (TX3 4).2.1 (TX3 4).2.2.1 ∈ wsX3_init := by decide +kernel
  refine g_aloadn C dX3_init_0 0 rfl rfl ?_
  refine g_objInit C w_0 w_1 w_2 (Nat.le_of_ble_eq_true rfl) (Nat.le_of_ble_eq_true rfl) dX3_init_1 ?_
  refine g_aloadn C dX3_init_4 0 rfl rfl ?_
  refine g_iconst C 0 dX3_init_5 (by decide) ?_
  refine g_put C fx3 w_3 0 0 rfl (by decide) w_4 rfl rfl rfl (Nat.le_of_ble_eq_true rfl) dX3_init_6 (([(xa, .inr (3, [.int 0, .null, .int 0, .int 0, .int 0]))] : va_W)) rfl ?_
  refine g_aloadn C dX3_init_9 0 rfl rfl ?_
  refine g_sipush C 200 dX3_init_10 (by decide) ?_
  refine g_newaB C (200) rfl (by omega) w_5 (Nat.le_of_ble_eq_true rfl) (Nat.le_of_ble_eq_true rfl) dX3_init_13 (fun z_13 => ?_)
  show G p l e _ s m args below meth c 1 D A _ 15 [(0, .ref xa)] [.ref z_13, .ref xa] (([(xa, .inr (3, [.int 0, .null, .int 0, .int 0, .int 0]))] : va_W) ++ (([(z_13, aI (q 1) 200 (fun _ => 0))] : va_W))) _ _
  refine g_putF C fx3 w_3 0 1 rfl (by decide) w_6 rfl hnm rfl rfl rfl (Nat.le_of_ble_eq_true rfl) dX3_init_15 (([(xa, .inr (3, [.int 0, .ref z_13, .int 0, .int 0, .int 0]))] : va_W) ++ (([(z_13, aI (q 1) 200 (fun _ => 0))] : va_W))) rfl ?_
  refine g_aloadn C dX3_init_18 0 rfl rfl ?_
  refine g_iconst C 0 dX3_init_19 (by decide) ?_
  refine g_put C fx3 w_3 0 2 rfl (by decide) w_7 rfl rfl rfl (Nat.le_of_ble_eq_true rfl) dX3_init_20 (([(xa, .inr (3, [.int 0, .ref z_13, .int 0, .int 0, .int 0]))] : va_W) ++ (([(z_13, aI (q 1) 200 (fun _ => 0))] : va_W))) rfl ?_
  refine g_aloadn C dX3_init_23 0 rfl rfl ?_
  refine g_iconst C 0 dX3_init_24 (by decide) ?_
  refine g_put C fx3 w_3 0 3 rfl (by decide) w_8 rfl rfl rfl (Nat.le_of_ble_eq_true rfl) dX3_init_25 (([(xa, .inr (3, [.int 0, .ref z_13, .int 0, .int 0, .int 0]))] : va_W) ++ (([(z_13, aI (q 1) 200 (fun _ => 0))] : va_W))) rfl ?_
  refine g_aloadn C dX3_init_28 0 rfl rfl ?_
  refine g_iconst C 0 dX3_init_29 (by decide) ?_
  refine g_put C fx3 w_3 0 4 rfl (by decide) w_9 rfl rfl rfl (Nat.le_of_ble_eq_true rfl) dX3_init_30 (([(xa, .inr (3, [.int 0, .ref z_13, .int 0, .int 0, .int 0]))] : va_W) ++ (([(z_13, aI (q 1) 200 (fun _ => 0))] : va_W))) rfl ?_
  exact g_vret C (aL [xa, z_13]) hr dX3_init_33 (Nat.le_of_ble_eq_true rfl) (Nat.le_of_ble_eq_true rfl) rfl (rfl)

