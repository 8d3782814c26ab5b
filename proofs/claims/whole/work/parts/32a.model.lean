set_option maxRecDepth 100000 in
set_option maxHeartbeats 4000000 in
theorem k_X5_isSheet (l : Launch) (D : va_G) (q : Nat → ClassId) (tt : Nat → Nat) (x : Int32)  : MI l D q tt yX5_isSheet wsX5_isSheet ({ frames := 1, cells := 0, slots := 0, locals := 25 } : Room) [.int x] [] (fun (r : Int32) (u : Unit) => r = (bI (0 ≤ x ∧ x ≤ 3))) (fun (_ : Unit) => []) 0 0 := by
  refine MI.of RX5 [(0, .int x)] (by decide) rfl rfl (Nat.le_of_ble_eq_true rfl) rfl ?_
  intro p e s m args below meth c A C hr hnm
  have w_0 : Cond.constantLong RX5 152 (3) ∈ wsX5_isSheet := by decide +kernel
  refine g_iloadn C dX5_isSheet_0 0 rfl rfl ?_
  refine g_i2l C dX5_isSheet_1 ?_
  refine g_lconst C 0 dX5_isSheet_2 (by decide) ?_
  refine g_ldc2 C (3) dX5_isSheet_3 w_0 ?_
  refine g_call0i C (rd_S C (k_isIn32 l D q tt (x) 0 (3) 0 (3) (by first | rfl | decide) (by first | rfl | decide)) gX5_isSheet_X5_isIn rfl rfl rfl 3 ok_X5_isIn (rest := []) rfl rfl (Nat.le_of_ble_eq_true rfl) dX5_isSheet_6 ⟨(Nat.le_of_ble_eq_true rfl), (Nat.le_of_ble_eq_true rfl)⟩ ⟨(Nat.le_of_ble_eq_true rfl), (Nat.le_of_ble_eq_true rfl)⟩) (fun _ => rfl) (fun r_6 _ h_6 => ?_)
  obtain rfl := h_6
  exact g_zret C () hr bI_z dX5_isSheet_9 (Nat.le_of_ble_eq_true rfl) (Nat.le_of_ble_eq_true rfl) rfl (rfl)

set_option maxRecDepth 100000 in
set_option maxHeartbeats 4000000 in
theorem k_X5_isShelf (l : Launch) (D : va_G) (q : Nat → ClassId) (tt : Nat → Nat) (x : Int32)  : MI l D q tt yX5_isShelf wsX5_isShelf ({ frames := 1, cells := 0, slots := 0, locals := 25 } : Room) [.int x] [] (fun (r : Int32) (u : Unit) => r = (bI (0 ≤ x ∧ x ≤ 3))) (fun (_ : Unit) => []) 0 0 := by
  refine MI.of RX5 [(0, .int x)] (by decide) rfl rfl (Nat.le_of_ble_eq_true rfl) rfl ?_
  intro p e s m args below meth c A C hr hnm
  have w_0 : Cond.constantLong RX5 152 (3) ∈ wsX5_isShelf := by decide +kernel
  refine g_iloadn C dX5_isShelf_0 0 rfl rfl ?_
  refine g_i2l C dX5_isShelf_1 ?_
  refine g_lconst C 0 dX5_isShelf_2 (by decide) ?_
  refine g_ldc2 C (3) dX5_isShelf_3 w_0 ?_
  refine g_call0i C (rd_S C (k_isIn32 l D q tt (x) 0 (3) 0 (3) (by first | rfl | decide) (by first | rfl | decide)) gX5_isShelf_X5_isIn rfl rfl rfl 3 ok_X5_isIn (rest := []) rfl rfl (Nat.le_of_ble_eq_true rfl) dX5_isShelf_6 ⟨(Nat.le_of_ble_eq_true rfl), (Nat.le_of_ble_eq_true rfl)⟩ ⟨(Nat.le_of_ble_eq_true rfl), (Nat.le_of_ble_eq_true rfl)⟩) (fun _ => rfl) (fun r_6 _ h_6 => ?_)
  obtain rfl := h_6
  exact g_zret C () hr bI_z dX5_isShelf_9 (Nat.le_of_ble_eq_true rfl) (Nat.le_of_ble_eq_true rfl) rfl (rfl)

set_option maxRecDepth 100000 in
set_option maxHeartbeats 4000000 in
theorem k_X5_heldOn (l : Launch) (D : va_G) (q : Nat → ClassId) (tt : Nat → Nat) (a : Nat → Nat) (v : MC) (j : Nat) (hj : j < 4) : MI l D q tt yX5_heldOn wsX5_heldOn ({ frames := 1, cells := 0, slots := 0, locals := 21 } : Room) [.ref (a 0), .int (nI j)] (mw q a v) (fun (r : Int32) (u : Unit) => r = (hoS (m_s v) (m_holdsWhat v) (m_holdsWhich v) j)) (fun (_ : Unit) => (mw q a v)) 0 0 := by
  refine MI.of RX5 [(0, .ref (a 0)), (1, .int (nI j))] (by decide) rfl rfl (Nat.le_of_ble_eq_true rfl) rfl ?_
  intro p e s m args below meth c A C hr hnm
  have w_0 : ∀ w ∈ u_ws RX5 TX5 29, w ∈ wsX5_heldOn := by decide +kernel
  have w_1 : Cond.fieldLink RX5 47 (TX5 20).1 (TX5 20).2.1 (TX5 20).2.2.1 ∈ wsX5_heldOn := by decide +kernel
  have w_2 : Cond.fieldLink RX5 50 (TX5 21).1 (TX5 21).2.1 (TX5 21).2.2.1 ∈ wsX5_heldOn := by decide +kernel
  refine g_aloadn C dX5_heldOn_0 0 rfl rfl ?_
  refine g_get C fx5 w_0 0 20 (v := .ref (a 13)) rfl (by decide) w_1 rfl dX5_heldOn_1 ?_
  refine g_iloadn C dX5_heldOn_4 1 rfl rfl ?_
  refine g_iald C 13 (j) (f := (m_holdsWhat v)) rfl rfl (by omega) (by decide) dX5_heldOn_5 ?_
  refine g_iconst C 1 dX5_heldOn_6 (by decide) ?_
  refine g_icmp_ne C 27 dX5_heldOn_7 rfl (fun c_7 => ?_) (fun c_7 => ?_)
  · refine g_aloadn C dX5_heldOn_27 0 rfl rfl ?_
    refine g_get C fx5 w_0 0 20 (v := .ref (a 13)) rfl (by decide) w_1 rfl dX5_heldOn_28 ?_
    refine g_iloadn C dX5_heldOn_31 1 rfl rfl ?_
    refine g_iald C 13 (j) (f := (m_holdsWhat v)) rfl rfl (by omega) (by decide) dX5_heldOn_32 ?_
    exact g_iret C () hr dX5_heldOn_33 (Nat.le_of_ble_eq_true rfl) (Nat.le_of_ble_eq_true rfl) rfl (by unfold hoS; rw [if_neg (fun h => c_7 h.1)])
  · refine g_aloadn C dX5_heldOn_10 0 rfl rfl ?_
    refine g_aloadn C dX5_heldOn_11 0 rfl rfl ?_
    refine g_get C fx5 w_0 0 21 (v := .ref (a 14)) rfl (by decide) w_2 rfl dX5_heldOn_12 ?_
    refine g_iloadn C dX5_heldOn_15 1 rfl rfl ?_
    refine g_iald C 14 (j) (f := (m_holdsWhich v)) rfl rfl (by omega) (by decide) dX5_heldOn_16 ?_
    refine g_callAi C (rd_V C (k_X5_isOne l D q tt a v ((m_holdsWhich v) j) ) gX5_heldOn_X5_isOne rfl rfl rfl 1 ok_X5_isOne rfl 0 rfl rfl (rest := []) rfl rfl (Nat.le_of_ble_eq_true rfl) dX5_heldOn_17 ⟨(Nat.le_of_ble_eq_true rfl), (Nat.le_of_ble_eq_true rfl)⟩ ⟨(Nat.le_of_ble_eq_true rfl), (Nat.le_of_ble_eq_true rfl)⟩) (fun r_17 _ h_17 => ?_)
    obtain rfl := h_17
    refine g_ifneE C 27 dX5_heldOn_20 rfl rfl (fun c_20 => ?_) (fun c_20 => ?_)
    · refine g_aloadn C dX5_heldOn_27 0 rfl rfl ?_
      refine g_get C fx5 w_0 0 20 (v := .ref (a 13)) rfl (by decide) w_1 rfl dX5_heldOn_28 ?_
      refine g_iloadn C dX5_heldOn_31 1 rfl rfl ?_
      refine g_iald C 13 (j) (f := (m_holdsWhat v)) rfl rfl (by omega) (by decide) dX5_heldOn_32 ?_
      exact g_iret C () hr dX5_heldOn_33 (Nat.le_of_ble_eq_true rfl) (Nat.le_of_ble_eq_true rfl) rfl (by unfold hoS; rw [if_neg (fun h => h.2 c_20)])
    · refine g_iconst C 0 dX5_heldOn_23 (by decide) ?_
      refine g_goto C 33 dX5_heldOn_24 rfl ?_
      exact g_iret C () hr dX5_heldOn_33 (Nat.le_of_ble_eq_true rfl) (Nat.le_of_ble_eq_true rfl) rfl (by unfold hoS; rw [if_pos ⟨c_7, c_20⟩])

