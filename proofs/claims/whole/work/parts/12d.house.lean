set_option maxRecDepth 100000 in
set_option maxHeartbeats 4000000 in
theorem k_X0_pass (l : Launch) (D : va_G) (q : Nat → ClassId) (tt : Nat → Nat) (a : Nat → Nat) (h : HC) (S : Nat → Int32) (N : Nat) (n : Nat) (hG : Gd S N) (rS : HR S N h) (hn : n < 2 ^ 31) : MV l D q tt yX0_pass wsX0_pass ({ frames := 3, cells := 0, slots := 0, locals := 67 } : Room) [.ref (a 0), .int (nI n)] (hw q a h) (fun (u : HC) => HR (gosS S N n) N u) (fun u => (hw q a u)) 0 0 := by
  refine MV.of RX0 [(0, .ref (a 0)), (1, .int (nI n))] (by decide) rfl rfl (Nat.le_of_ble_eq_true rfl) rfl ?_
  intro p e s m args below meth c A C hr hnm
  refine g_iconst C 0 dX0_pass_0 (by decide) ?_
  refine g_istoren C [(2, .int 0), (0, .ref (a 0)), (1, .int (nI n))] dX0_pass_1 rfl (by decide) rfl ?_
  have J_2 : ∀ (fu : Nat) (i : Nat) (g : HC), n - i < fu → (i ≤ n) → (HR (gosS S N i) N g) → G p l e ({ frames := 3, cells := 0, slots := 0, locals := 67 } : Room) s m args below meth c 3 D A (MQ below (va_Qv (fun (u : HC) => HR (gosS S N n) N u) (Bw D A (fun u => (hw q a u))) A) args s 0 0 A) 2 [(0, .ref (a 0)), (1, .int (nI n)), (2, .int (nI i))] [] (hw q a g) 0 0 := by
    intro fu
    induction fu with
    | zero =>
      intro i g hfu
      exact absurd hfu (Nat.not_lt_zero _)
    | succ fu ih =>
      intro i g hfu hi hg
      refine g_iloadn C dX0_pass_2 2 rfl rfl ?_
      refine g_iloadn C dX0_pass_3 1 rfl rfl ?_
      refine g_icmpN_ge C 17 (i) (n) dX0_pass_4 rfl (by omega) (by omega) (fun c_4 => ?_) (fun c_4 => ?_)
      · exact g_vret C g hr dX0_pass_17 (Nat.le_of_ble_eq_true rfl) (Nat.le_of_ble_eq_true rfl) rfl (by have e : i = n := (by omega); rw [← e]; exact hg)
      · refine g_aloadn C dX0_pass_7 0 rfl rfl ?_
        refine g_callAv C (rd_V C (k_X0_passOne l D q tt a g (gosS S N i) N (hG.gos i) hg) gX0_pass_X0_passOne rfl rfl rfl 0 ok_X0_passOne rfl 0 rfl rfl (rest := []) rfl rfl (Nat.le_of_ble_eq_true rfl) dX0_pass_8 ⟨(Nat.le_of_ble_eq_true rfl), (Nat.le_of_ble_eq_true rfl)⟩ ⟨(Nat.le_of_ble_eq_true rfl), (Nat.le_of_ble_eq_true rfl)⟩) (fun u_8 h_8 => ?_)
        have rS_8 := h_8
        refine g_iinc C (nI (i + 1)) [(2, .int (nI (i + 1))), (0, .ref (a 0)), (1, .int (nI n))] dX0_pass_11 2 rfl (nI_add i 1) (by decide) rfl ?_
        refine g_goto C 2 dX0_pass_14 rfl ?_
        refine g_sub [1, 2, 0] (lv' := [(0, .ref (a 0)), (1, .int (nI n)), (2, .int (nI (i + 1)))]) rfl ?_
        exact ih ((i + 1)) (u_8) (by omega) (by first | assumption | omega) rS_8
  refine g_sub [1, 2, 0] (lv' := [(0, .ref (a 0)), (1, .int (nI n)), (2, .int 0)]) rfl ?_
  exact J_2 _ (0) (h) (Nat.lt_succ_self _) (by first | assumption | omega) rS

set_option maxRecDepth 100000 in
set_option maxHeartbeats 4000000 in
theorem k_X0_draw (l : Launch) (D : va_G) (q : Nat → ClassId) (tt : Nat → Nat) (a : Nat → Nat) (h : HC)  : MI l D q tt yX0_draw wsX0_draw ({ frames := 0, cells := 0, slots := 0, locals := 0 } : Room) [.ref (a 0)] (hw q a h) (fun (r : Int32) (u : Unit) => r = (zrS (zsS (hZ h)))) (fun (_ : Unit) => (hw q a ((hL h), (hK h), (hP h), (hE h), (hR h), (hN h), (hC h), (hM h), (zsS (hZ h)), (hJ h), (hH h)))) 0 0 := by
  refine MI.of RX0 [(0, .ref (a 0))] (by decide) rfl rfl (Nat.le_of_ble_eq_true rfl) rfl ?_
  intro p e s m args below meth c A C hr hnm
  have w_0 : ∀ w ∈ u_ws RX0 TX0 11, w ∈ wsX0_draw := by decide +kernel
  have w_1 : Cond.fieldLink RX0 33 (TX0 8).1 (TX0 8).2.1 (TX0 8).2.2.1 ∈ wsX0_draw := by decide +kernel
  have w_2 : Cond.constant RX0 100 (1103515245) ∈ wsX0_draw := by decide +kernel
  refine g_aloadn C dX0_draw_0 0 rfl rfl ?_
  refine g_aloadn C dX0_draw_1 0 rfl rfl ?_
  refine g_get C fx0 w_0 0 8 (v := .int (hZ h)) rfl (by decide) w_1 rfl dX0_draw_2 ?_
  refine g_ldc C (1103515245) dX0_draw_5 w_2 ?_
  refine g_imul C dX0_draw_7 ?_
  refine g_sipush C 12345 dX0_draw_8 (by decide) ?_
  refine g_iadd C dX0_draw_11 ?_
  refine g_topci (zsS (hZ h)) ((zsS_e _).symm) ?_
  refine g_put C fx0 w_0 0 8 rfl (by decide) w_1 rfl rfl rfl (Nat.le_of_ble_eq_true rfl) dX0_draw_12 (hw q a ((hL h), (hK h), (hP h), (hE h), (hR h), (hN h), (hC h), (hM h), (zsS (hZ h)), (hJ h), (hH h))) rfl ?_
  refine g_aloadn C dX0_draw_15 0 rfl rfl ?_
  refine g_get C fx0 w_0 0 8 (v := .int (zsS (hZ h))) rfl (by decide) w_1 rfl dX0_draw_16 ?_
  refine g_bipush C 16 dX0_draw_19 (by decide) ?_
  refine g_iushr C dX0_draw_21 ?_
  exact g_iret C () hr dX0_draw_22 (Nat.le_of_ble_eq_true rfl) (Nat.le_of_ble_eq_true rfl) rfl (rfl)

