set_option maxRecDepth 100000 in
set_option maxHeartbeats 4000000 in
theorem k_X2_note (l : Launch) (D : va_G) (q : Nat → ClassId) (tt : Nat → Nat) (a : Nat → Nat) (g : GC) (c0 : Nat) (b : Int32) (hc : gN g = nI c0) (hc30 : c0 ≤ 30) : MV l D q tt yX2_note wsX2_note ({ frames := 0, cells := 0, slots := 0, locals := 0 } : Room) [.ref (a 0), .int b] (sw q a g) (fun (u : Unit) => True) (fun (_ : Unit) => (sw q a ((noB (gB g) c0 b), (nI (noC c0)), (gK g), (gU g), (gE g), (gP g)))) 0 0 := by
  refine MV.of RX2 [(0, .ref (a 0)), (1, .int b)] (by decide) rfl rfl (Nat.le_of_ble_eq_true rfl) rfl ?_
  intro p e s m args below meth c A C hr hnm
  have w_0 : ∀ w ∈ u_ws RX2 TX2 6, w ∈ wsX2_note := by decide +kernel
  have w_1 : Cond.fieldLink RX2 15 (TX2 1).1 (TX2 1).2.1 (TX2 1).2.2.1 ∈ wsX2_note := by decide +kernel
  have w_2 : Cond.fieldLink RX2 11 (TX2 0).1 (TX2 0).2.1 (TX2 0).2.2.1 ∈ wsX2_note := by decide +kernel
  refine g_aloadn C dX2_note_0 0 rfl rfl ?_
  refine g_get C fx2 w_0 0 1 (v := .int (gN g)) rfl (by decide) w_1 rfl dX2_note_1 ?_
  refine g_topci (nI c0) (hc) ?_
  refine g_bipush C 30 dX2_note_4 (by decide) ?_
  refine g_icmpN_ge C 29 (c0) (30) dX2_note_6 rfl (by omega) (by omega) (fun c_6 => ?_) (fun c_6 => ?_)
  · refine g_wsc (sw q a ((noB (gB g) c0 b), (gN g), (gK g), (gU g), (gE g), (gP g))) (by unfold noB; first | (rw [if_neg (by omega)]; done) | (rw [if_neg (by omega)]; rfl) | (rw [if_pos (by omega)]; done) | (rw [if_pos (by omega)]; rfl)) ?_
    refine g_wsc (sw q a ((noB (gB g) c0 b), (nI (noC c0)), (gK g), (gU g), (gE g), (gP g))) (by unfold noC; first | (rw [if_neg (by omega), ← hc]; done) | (rw [if_neg (by omega), ← hc]; rfl) | (rw [if_pos (by omega)]; done) | (rw [if_pos (by omega)]; rfl)) ?_
    exact g_vret C () hr dX2_note_29 (Nat.le_of_ble_eq_true rfl) (Nat.le_of_ble_eq_true rfl) rfl (trivial)
  · refine g_aloadn C dX2_note_9 0 rfl rfl ?_
    refine g_get C fx2 w_0 0 0 (v := .ref (a 1)) rfl (by decide) w_2 rfl dX2_note_10 ?_
    refine g_aloadn C dX2_note_13 0 rfl rfl ?_
    refine g_get C fx2 w_0 0 1 (v := .int (gN g)) rfl (by decide) w_1 rfl dX2_note_14 ?_
    refine g_topci (nI c0) (hc) ?_
    refine g_iloadn C dX2_note_17 1 rfl rfl ?_
    refine g_iast C 1 (c0) (f := (gB g)) rfl rfl (by omega) (by decide) dX2_note_18 (sw q a ((upd (gB g) c0 b), (gN g), (gK g), (gU g), (gE g), (gP g))) rfl ?_
    refine g_aloadn C dX2_note_19 0 rfl rfl ?_
    refine g_dup C dX2_note_20 rfl ?_
    refine g_get C fx2 w_0 0 1 (v := .int (gN g)) rfl (by decide) w_1 rfl dX2_note_21 ?_
    refine g_topci (nI c0) (hc) ?_
    refine g_iconst C 1 dX2_note_24 (by decide) ?_
    refine g_iadd C dX2_note_25 ?_
    refine g_topci (nI (c0 + 1)) ((ix_add rfl rfl)) ?_
    refine g_put C fx2 w_0 0 1 rfl (by decide) w_1 rfl rfl rfl (Nat.le_of_ble_eq_true rfl) dX2_note_26 (sw q a ((upd (gB g) c0 b), (nI (c0 + 1)), (gK g), (gU g), (gE g), (gP g))) rfl ?_
    refine g_wsc (sw q a ((noB (gB g) c0 b), (nI (c0 + 1)), (gK g), (gU g), (gE g), (gP g))) (by unfold noB; first | (rw [if_neg (by omega)]; done) | (rw [if_neg (by omega)]; rfl) | (rw [if_pos (by omega)]; done) | (rw [if_pos (by omega)]; rfl)) ?_
    refine g_wsc (sw q a ((noB (gB g) c0 b), (nI (noC c0)), (gK g), (gU g), (gE g), (gP g))) (by unfold noC; first | (rw [if_neg (by omega), ← hc]; done) | (rw [if_neg (by omega), ← hc]; rfl) | (rw [if_pos (by omega)]; done) | (rw [if_pos (by omega)]; rfl)) ?_
    exact g_vret C () hr dX2_note_29 (Nat.le_of_ble_eq_true rfl) (Nat.le_of_ble_eq_true rfl) rfl (trivial)

set_option maxRecDepth 100000 in
set_option maxHeartbeats 4000000 in
theorem k_X2_bodyOf (l : Launch) (D : va_G) (q : Nat → ClassId) (tt : Nat → Nat) (as_ : Nat) (ac : Nat) (hAs : as_ ≤ 5) (hAc : ac ≤ 3) : MI l D q tt yX2_bodyOf wsX2_bodyOf ({ frames := 1, cells := 0, slots := 0, locals := 22 } : Room) [.int (nI as_), .int (nI ac)] [] (fun (r : Int32) (u : Unit) => r = (tBO.getD (as_ * 4 + ac) 0)) (fun (_ : Unit) => []) 0 0 := by
  refine MI.of RX2 [(0, .int (nI as_)), (1, .int (nI ac))] (by decide) rfl rfl (Nat.le_of_ble_eq_true rfl) rfl ?_
  intro p e s m args below meth c A C hr hnm
  have w_0 : Cond.fieldLink RX2 48 RX2 "BODY" "[I" ∈ wsX2_bodyOf := by decide +kernel
  have w_1 : Cond.methodLinkNest RX2 51 yX4_within "HiredClaque" ∈ nwL := by decide +kernel
  have w_2 : Cond.static yX4_within ∈ wsX2_bodyOf := by decide +kernel
  have w_3 : Cond.initialized yX4_within.cls ∈ wsX2_bodyOf := by decide +kernel
  refine g_iloadn C dX2_bodyOf_0 0 rfl rfl ?_
  refine g_iconst C 4 dX2_bodyOf_1 (by decide) ?_
  refine g_imul C dX2_bodyOf_2 ?_
  refine g_iloadn C dX2_bodyOf_3 1 rfl rfl ?_
  refine g_iadd C dX2_bodyOf_4 ?_
  refine g_topci (nI ((as_ * 4) + ac)) ((ix_add (ix_mul rfl rfl) rfl)) ?_
  refine g_istoren C [(2, .int (nI ((as_ * 4) + ac))), (0, .int (nI as_)), (1, .int (nI ac))] dX2_bodyOf_5 rfl (by decide) rfl ?_
  refine g_iloadn C dX2_bodyOf_6 0 rfl rfl ?_
  refine g_iconst C 0 dX2_bodyOf_7 (by decide) ?_
  refine g_gets C C.2.2.2.2.2.2.1.2.2.2.2.2.2.1 w_0 dX2_bodyOf_8 ?_
  refine g_tlen C C.2.2.2.2.2.2.1.2.2.2.2.2.2.1 dX2_bodyOf_11 ?_
  refine g_topci 24 rfl ?_
  refine g_iconst C 1 dX2_bodyOf_12 (by decide) ?_
  refine g_isub C dX2_bodyOf_13 ?_
  refine g_topci 23 (by decide) ?_
  refine g_call0i C (rd_SN C (host := "HiredClaque") (k_X4_within l D q tt (nI ((as_ * 4) + ac)) 0 23 ) gX2_bodyOf_X4_within_n51 rfl rfl rfl 3 ok_X4_within w_1 w_2 w_3 (rest := []) rfl rfl (Nat.le_of_ble_eq_true rfl) dX2_bodyOf_14 ⟨(Nat.le_of_ble_eq_true rfl), (Nat.le_of_ble_eq_true rfl)⟩ ⟨(Nat.le_of_ble_eq_true rfl), (Nat.le_of_ble_eq_true rfl)⟩) (fun _ => rfl) (fun r_14 _ h_14 => ?_)
  obtain rfl := h_14
  refine g_ifeqE C 28 dX2_bodyOf_17 rfl rfl (fun c_17 => ?_) (fun c_17 => ?_)
  · exfalso
    exact c_17 ⟨nI_pos' (by omega), nI_le (b := 23) (by omega) (by omega)⟩
  · refine g_gets C C.2.2.2.2.2.2.1.2.2.2.2.2.2.1 w_0 dX2_bodyOf_20 ?_
    refine g_iloadn C dX2_bodyOf_23 0 rfl rfl ?_
    refine g_ti C (((as_ * 4) + ac)) C.2.2.2.2.2.2.1.2.2.2.2.2.2.1 rfl (by omega) (by decide) dX2_bodyOf_24 ?_
    refine g_goto C 29 dX2_bodyOf_25 rfl ?_
    exact g_iret C () hr dX2_bodyOf_29 (Nat.le_of_ble_eq_true rfl) (Nat.le_of_ble_eq_true rfl) rfl (rfl)

set_option maxRecDepth 100000 in
set_option maxHeartbeats 4000000 in
theorem k_X2_part (l : Launch) (D : va_G) (q : Nat → ClassId) (tt : Nat → Nat) (a : Nat → Nat) (g : GC) (x : Int32) (z : (Nat → Int32) × Nat) (hpz : gP g = 0) : MI l D q tt yX2_part wsX2_part ({ frames := 0, cells := 0, slots := 0, locals := 0 } : Room) [.ref (a 0), .int x] (sw q a g) (fun (r : Int32) (u : Unit) => r = (a12 (gU g) (gE g) x z).1) (fun (_ : Unit) => (sw q a ((gB g), (gN g), (gK g), (gU g), (gE g), ((a12 (gU g) (gE g) x z).2.2)))) 0 0 := by
  refine MI.of RX2 [(0, .ref (a 0)), (1, .int x)] (by decide) rfl rfl (Nat.le_of_ble_eq_true rfl) rfl ?_
  intro p e s m args below meth c A C hr hnm
  have w_0 : ∀ w ∈ u_ws RX2 TX2 6, w ∈ wsX2_part := by decide +kernel
  have w_1 : Cond.fieldLink RX2 25 (TX2 4).1 (TX2 4).2.1 (TX2 4).2.2.1 ∈ wsX2_part := by decide +kernel
  have w_2 : Cond.fieldLink RX2 22 (TX2 3).1 (TX2 3).2.1 (TX2 3).2.2.1 ∈ wsX2_part := by decide +kernel
  have w_3 : Cond.fieldLink RX2 28 (TX2 5).1 (TX2 5).2.1 (TX2 5).2.2.1 ∈ wsX2_part := by decide +kernel
  refine g_aloadn C dX2_part_0 0 rfl rfl ?_
  refine g_get C fx2 w_0 0 4 (v := .int (gE g)) rfl (by decide) w_1 rfl dX2_part_1 ?_
  refine g_aloadn C dX2_part_4 0 rfl rfl ?_
  refine g_get C fx2 w_0 0 3 (v := .int (gU g)) rfl (by decide) w_2 rfl dX2_part_5 ?_
  refine g_isub C dX2_part_8 ?_
  refine g_istoren C [(2, .int ((gE g) - (gU g))), (0, .ref (a 0)), (1, .int x)] dX2_part_9 rfl (by decide) rfl ?_
  refine g_iloadn C dX2_part_10 0 rfl rfl ?_
  refine g_if_ne C 21 dX2_part_11 rfl (fun c_11 => ?_) (fun c_11 => ?_)
  · refine g_iloadn C dX2_part_21 2 rfl rfl ?_
    refine g_iloadn C dX2_part_22 0 rfl rfl ?_
    refine g_idiv C dX2_part_23 c_11 ?_
    refine g_wsc (sw q a ((gB g), (gN g), (gK g), (gU g), (gE g), ((a12 (gU g) (gE g) x z).2.2))) (by unfold a12; first | (rw [if_neg (show ¬ gU g = gE g from fun z => c_11 (by rw [z]; exact Int32.sub_self _)), ← hpz]; done) | (rw [if_neg (show ¬ gU g = gE g from fun z => c_11 (by rw [z]; exact Int32.sub_self _)), ← hpz]; rfl)) ?_
    exact g_iret C () hr dX2_part_24 (Nat.le_of_ble_eq_true rfl) (Nat.le_of_ble_eq_true rfl) rfl (by unfold a12; rw [if_neg (show ¬ gU g = gE g from fun z => c_11 (by rw [z]; exact Int32.sub_self _))])
  · refine g_aloadn C dX2_part_14 1 rfl rfl ?_
    refine g_iconst C 1 dX2_part_15 (by decide) ?_
    refine g_put C fx2 w_0 0 5 rfl (by decide) w_3 rfl rfl rfl (Nat.le_of_ble_eq_true rfl) dX2_part_16 (sw q a ((gB g), (gN g), (gK g), (gU g), (gE g), 1)) rfl ?_
    refine g_iconst C 0 dX2_part_19 (by decide) ?_
    refine g_wsc (sw q a ((gB g), (gN g), (gK g), (gU g), (gE g), ((a12 (gU g) (gE g) x z).2.2))) (by unfold a12; first | (rw [if_pos (show gU g = gE g from (i32_sub0 c_11).symm)]; done) | (rw [if_pos (show gU g = gE g from (i32_sub0 c_11).symm)]; rfl)) ?_
    exact g_iret C () hr dX2_part_20 (Nat.le_of_ble_eq_true rfl) (Nat.le_of_ble_eq_true rfl) rfl (by unfold a12; rw [if_pos (show gU g = gE g from (i32_sub0 c_11).symm)])

set_option maxRecDepth 100000 in
set_option maxHeartbeats 4000000 in
theorem k_X2_clear (l : Launch) (D : va_G) (q : Nat → ClassId) (tt : Nat → Nat) (a : Nat → Nat) (g : GC)  : MV l D q tt yX2_clear wsX2_clear ({ frames := 0, cells := 0, slots := 0, locals := 0 } : Room) [.ref (a 0)] (sw q a g) (fun (u : Unit) => True) (fun (_ : Unit) => (sw q a ((gB g), 0, (gK g), (gU g), (gE g), 0))) 0 0 := by
  refine MV.of RX2 [(0, .ref (a 0))] (by decide) rfl rfl (Nat.le_of_ble_eq_true rfl) rfl ?_
  intro p e s m args below meth c A C hr hnm
  have w_0 : ∀ w ∈ u_ws RX2 TX2 6, w ∈ wsX2_clear := by decide +kernel
  have w_1 : Cond.fieldLink RX2 15 (TX2 1).1 (TX2 1).2.1 (TX2 1).2.2.1 ∈ wsX2_clear := by decide +kernel
  have w_2 : Cond.fieldLink RX2 28 (TX2 5).1 (TX2 5).2.1 (TX2 5).2.2.1 ∈ wsX2_clear := by decide +kernel
  refine g_aloadn C dX2_clear_0 0 rfl rfl ?_
  refine g_iconst C 0 dX2_clear_1 (by decide) ?_
  refine g_put C fx2 w_0 0 1 rfl (by decide) w_1 rfl rfl rfl (Nat.le_of_ble_eq_true rfl) dX2_clear_2 (sw q a ((gB g), 0, (gK g), (gU g), (gE g), (gP g))) rfl ?_
  refine g_aloadn C dX2_clear_5 0 rfl rfl ?_
  refine g_iconst C 0 dX2_clear_6 (by decide) ?_
  refine g_put C fx2 w_0 0 5 rfl (by decide) w_2 rfl rfl rfl (Nat.le_of_ble_eq_true rfl) dX2_clear_7 (sw q a ((gB g), 0, (gK g), (gU g), (gE g), 0)) rfl ?_
  exact g_vret C () hr dX2_clear_10 (Nat.le_of_ble_eq_true rfl) (Nat.le_of_ble_eq_true rfl) rfl (trivial)

set_option maxRecDepth 100000 in
set_option maxHeartbeats 4000000 in
theorem k_runZ (l : Launch) (D : va_G) (q : Nat → ClassId) (tt : Nat → Nat) (a : Nat → Nat) (g : GC) (x1 : Int32) (x2 : Int32) (x : Int32) (x4 : Int32) (hp1 : gP g = 1) : MI l D q tt yX2_run wsX2_run ({ frames := 0, cells := 0, slots := 0, locals := 0 } : Room) [.ref (a 0), .int x1, .int x2, .int x, .int x4] (sw q a g) (fun (r : Int32) (u : Unit) => r = 0) (fun (_ : Unit) => (sw q a g)) 0 0 := by
  refine MI.of RX2 [(0, .ref (a 0)), (1, .int x1), (2, .int x2), (3, .int x), (4, .int x4)] (by decide) rfl rfl (Nat.le_of_ble_eq_true rfl) rfl ?_
  intro p e s m args below meth c A C hr hnm
  have w_0 : ∀ w ∈ u_ws RX2 TX2 6, w ∈ wsX2_run := by decide +kernel
  have w_1 : Cond.fieldLink RX2 28 (TX2 5).1 (TX2 5).2.1 (TX2 5).2.2.1 ∈ wsX2_run := by decide +kernel
  refine g_aloadn C dX2_run_0 0 rfl rfl ?_
  refine g_get C fx2 w_0 0 5 (v := .int (gP g)) rfl (by decide) w_1 rfl dX2_run_1 ?_
  refine g_topci 1 (hp1) ?_
  refine g_if_neT C 14 dX2_run_4 rfl (by decide) ?_
  refine g_iconst C 0 dX2_run_14 (by decide) ?_
  exact g_iret C () hr dX2_run_15 (Nat.le_of_ble_eq_true rfl) (Nat.le_of_ble_eq_true rfl) rfl (rfl)

set_option maxRecDepth 100000 in
set_option maxHeartbeats 4000000 in
theorem k_run10 (l : Launch) (D : va_G) (q : Nat → ClassId) (tt : Nat → Nat) (a : Nat → Nat) (g : GC) (c0 : Nat) (as_ : Nat) (ac : Nat) (x : Int32) (d : Nat) (hc : gN g = nI c0) (hc30 : c0 ≤ 30) (hpz : gP g = 0) (hAs : as_ ≤ 5) (hAc : ac ≤ 3) (hb : tBO.getD (as_ * 4 + ac) 0 = 10) (hd : d + 1 ≤ 13) : MI l D q tt yX2_run wsX2_run ({ frames := 2, cells := 0, slots := 0, locals := 44 } : Room) [.ref (a 0), .int (nI as_), .int (nI ac), .int x, .int (nI d)] (sw q a g) (fun (r : Int32) (u : Unit) => r = (a10 (gU g) x ((gB g), c0)).1) (fun (_ : Unit) => (sw q a (((a10 (gU g) x ((gB g), c0)).2.1), (nI (a10 (gU g) x ((gB g), c0)).2.2), (gK g), (gU g), (gE g), (gP g)))) 0 0 := by
  refine MI.of RX2 [(0, .ref (a 0)), (1, .int (nI as_)), (2, .int (nI ac)), (3, .int x), (4, .int (nI d))] (by decide) rfl rfl (Nat.le_of_ble_eq_true rfl) rfl ?_
  intro p e s m args below meth c A C hr hnm
  have w_0 : ∀ w ∈ u_ws RX2 TX2 6, w ∈ wsX2_run := by decide +kernel
  have w_1 : Cond.fieldLink RX2 28 (TX2 5).1 (TX2 5).2.1 (TX2 5).2.2.1 ∈ wsX2_run := by decide +kernel
  have w_2 : Cond.fieldLink RX2 22 (TX2 3).1 (TX2 3).2.1 (TX2 3).2.2.1 ∈ wsX2_run := by decide +kernel
  refine g_aloadn C dX2_run_0 0 rfl rfl ?_
  refine g_get C fx2 w_0 0 5 (v := .int (gP g)) rfl (by decide) w_1 rfl dX2_run_1 ?_
  refine g_topci 0 (hpz) ?_
  refine g_if_neF C 14 dX2_run_4 rfl (by decide) ?_
  refine g_iload C dX2_run_7 4 rfl ?_
  refine g_bipush C 12 dX2_run_9 (by decide) ?_
  refine g_icmpN_le C 16 (d) (12) dX2_run_11 rfl (by omega) (by omega) (fun c_11 => ?_) (fun c_11 => ?_)
  · refine g_iloadn C dX2_run_16 1 rfl rfl ?_
    refine g_iloadn C dX2_run_17 2 rfl rfl ?_
    refine g_call0i C (rd_S C (k_X2_bodyOf l D q tt as_ ac (by first | assumption | omega) (by first | assumption | omega)) gX2_run_X2_bodyOf rfl rfl rfl 2 ok_X2_bodyOf (rest := []) rfl rfl (Nat.le_of_ble_eq_true rfl) dX2_run_18 ⟨(Nat.le_of_ble_eq_true rfl), (Nat.le_of_ble_eq_true rfl)⟩ ⟨(Nat.le_of_ble_eq_true rfl), (Nat.le_of_ble_eq_true rfl)⟩) (fun _ => rfl) (fun r_18 _ h_18 => ?_)
    obtain rfl := h_18
    refine g_topci 10 (hb) ?_
    refine g_istore C [(5, .int 10), (0, .ref (a 0)), (1, .int (nI as_)), (2, .int (nI ac)), (3, .int x), (4, .int (nI d))] dX2_run_21 (by decide) rfl ?_
    refine g_aloadn C dX2_run_23 1 rfl rfl ?_
    refine g_iload C dX2_run_24 0 rfl ?_
    refine g_callAv C (rd_V C (k_X2_note l D q tt a g c0 10 (by first | assumption | omega) (by first | assumption | omega)) gX2_run_X2_note rfl rfl rfl 1 ok_X2_note rfl 0 rfl rfl (rest := []) rfl rfl (Nat.le_of_ble_eq_true rfl) dX2_run_26 ⟨(Nat.le_of_ble_eq_true rfl), (Nat.le_of_ble_eq_true rfl)⟩ ⟨(Nat.le_of_ble_eq_true rfl), (Nat.le_of_ble_eq_true rfl)⟩) (fun _ h_26 => ?_)
    refine g_iload C dX2_run_29 5 rfl ?_
    refine g_iconst C 1 dX2_run_31 (by decide) ?_
    refine g_iadd C dX2_run_32 ?_
    refine g_topci (nI (d + 1)) ((ix_add rfl rfl)) ?_
    refine g_istore C [(6, .int (nI (d + 1))), (5, .int 10), (0, .ref (a 0)), (1, .int (nI as_)), (2, .int (nI ac)), (3, .int x), (4, .int (nI d))] dX2_run_33 (by decide) rfl ?_
    refine g_iload C dX2_run_35 1 rfl ?_
    refine g_tin C 260 dX2_run_37 (by decide) (by decide) rfl rfl ?_
    refine g_iloadn C dX2_run_260 5 rfl rfl ?_
    refine g_aloadn C dX2_run_261 2 rfl rfl ?_
    refine g_get C fx2 w_0 0 3 (v := .int (gU g)) rfl (by decide) w_2 rfl dX2_run_262 ?_
    refine g_bipush C 7 dX2_run_265 (by decide) ?_
    refine g_imul C dX2_run_267 ?_
    refine g_isub C dX2_run_268 ?_
    exact g_iret C () hr dX2_run_269 (Nat.le_of_ble_eq_true rfl) (Nat.le_of_ble_eq_true rfl) rfl (rfl)
  · exfalso
    omega

set_option maxRecDepth 100000 in
set_option maxHeartbeats 4000000 in
theorem k_run30 (l : Launch) (D : va_G) (q : Nat → ClassId) (tt : Nat → Nat) (a : Nat → Nat) (g : GC) (c0 : Nat) (as_ : Nat) (ac : Nat) (x : Int32) (d : Nat) (hc : gN g = nI c0) (hc30 : c0 ≤ 30) (hpz : gP g = 0) (hAs : as_ ≤ 5) (hAc : ac ≤ 3) (hb : tBO.getD (as_ * 4 + ac) 0 = 30) (hd : d + 2 ≤ 13) : MI l D q tt yX2_run wsX2_run ({ frames := 3, cells := 0, slots := 0, locals := 70 } : Room) [.ref (a 0), .int (nI as_), .int (nI ac), .int x, .int (nI d)] (sw q a g) (fun (r : Int32) (u : Unit) => r = (a30 (gU g) x ((gB g), c0)).1) (fun (_ : Unit) => (sw q a (((a30 (gU g) x ((gB g), c0)).2.1), (nI (a30 (gU g) x ((gB g), c0)).2.2), (gK g), (gU g), (gE g), (gP g)))) 0 0 := by
  refine MI.of RX2 [(0, .ref (a 0)), (1, .int (nI as_)), (2, .int (nI ac)), (3, .int x), (4, .int (nI d))] (by decide) rfl rfl (Nat.le_of_ble_eq_true rfl) rfl ?_
  intro p e s m args below meth c A C hr hnm
  have w_0 : ∀ w ∈ u_ws RX2 TX2 6, w ∈ wsX2_run := by decide +kernel
  have w_1 : Cond.fieldLink RX2 28 (TX2 5).1 (TX2 5).2.1 (TX2 5).2.2.1 ∈ wsX2_run := by decide +kernel
  refine g_aloadn C dX2_run_0 0 rfl rfl ?_
  refine g_get C fx2 w_0 0 5 (v := .int (gP g)) rfl (by decide) w_1 rfl dX2_run_1 ?_
  refine g_topci 0 (hpz) ?_
  refine g_if_neF C 14 dX2_run_4 rfl (by decide) ?_
  refine g_iload C dX2_run_7 4 rfl ?_
  refine g_bipush C 12 dX2_run_9 (by decide) ?_
  refine g_icmpN_le C 16 (d) (12) dX2_run_11 rfl (by omega) (by omega) (fun c_11 => ?_) (fun c_11 => ?_)
  · refine g_iloadn C dX2_run_16 1 rfl rfl ?_
    refine g_iloadn C dX2_run_17 2 rfl rfl ?_
    refine g_call0i C (rd_S C (k_X2_bodyOf l D q tt as_ ac (by first | assumption | omega) (by first | assumption | omega)) gX2_run_X2_bodyOf rfl rfl rfl 2 ok_X2_bodyOf (rest := []) rfl rfl (Nat.le_of_ble_eq_true rfl) dX2_run_18 ⟨(Nat.le_of_ble_eq_true rfl), (Nat.le_of_ble_eq_true rfl)⟩ ⟨(Nat.le_of_ble_eq_true rfl), (Nat.le_of_ble_eq_true rfl)⟩) (fun _ => rfl) (fun r_18 _ h_18 => ?_)
    obtain rfl := h_18
    refine g_topci 30 (hb) ?_
    refine g_istore C [(5, .int 30), (0, .ref (a 0)), (1, .int (nI as_)), (2, .int (nI ac)), (3, .int x), (4, .int (nI d))] dX2_run_21 (by decide) rfl ?_
    refine g_aloadn C dX2_run_23 1 rfl rfl ?_
    refine g_iload C dX2_run_24 0 rfl ?_
    refine g_callAv C (rd_V C (k_X2_note l D q tt a g c0 30 (by first | assumption | omega) (by first | assumption | omega)) gX2_run_X2_note rfl rfl rfl 1 ok_X2_note rfl 0 rfl rfl (rest := []) rfl rfl (Nat.le_of_ble_eq_true rfl) dX2_run_26 ⟨(Nat.le_of_ble_eq_true rfl), (Nat.le_of_ble_eq_true rfl)⟩ ⟨(Nat.le_of_ble_eq_true rfl), (Nat.le_of_ble_eq_true rfl)⟩) (fun _ h_26 => ?_)
    refine g_iload C dX2_run_29 5 rfl ?_
    refine g_iconst C 1 dX2_run_31 (by decide) ?_
    refine g_iadd C dX2_run_32 ?_
    refine g_topci (nI (d + 1)) ((ix_add rfl rfl)) ?_
    refine g_istore C [(6, .int (nI (d + 1))), (5, .int 30), (0, .ref (a 0)), (1, .int (nI as_)), (2, .int (nI ac)), (3, .int x), (4, .int (nI d))] dX2_run_33 (by decide) rfl ?_
    refine g_iload C dX2_run_35 1 rfl ?_
    refine g_tin C 325 dX2_run_37 (by decide) (by decide) rfl rfl ?_
    refine g_aloadn C dX2_run_325 2 rfl rfl ?_
    refine g_iconst C 0 dX2_run_326 (by decide) ?_
    refine g_iconst C 0 dX2_run_327 (by decide) ?_
    refine g_iloadn C dX2_run_328 5 rfl rfl ?_
    refine g_iload C dX2_run_329 0 rfl ?_
    refine g_callAi C (rd_V C (k_run10 l D q tt a ((noB (gB g) c0 30), (nI (noC c0)), (gK g), (gU g), (gE g), (gP g)) (noC c0) 0 0 x (d + 1) rfl (noC_le hc30) hpz (by omega) (by omega) rfl (by omega)) gX2_run_X2_run rfl rfl rfl 4 ok_X2_run rfl 0 rfl rfl (rest := []) rfl rfl (Nat.le_of_ble_eq_true rfl) dX2_run_331 ⟨(Nat.le_of_ble_eq_true rfl), (Nat.le_of_ble_eq_true rfl)⟩ ⟨(Nat.le_of_ble_eq_true rfl), (Nat.le_of_ble_eq_true rfl)⟩) (fun r_331 _ h_331 => ?_)
    obtain rfl := h_331
    refine g_wsc (sw q a (((a10 (gU g) x ((noB (gB g) c0 30), (noC c0))).2.1), (nI (a10 (gU g) x ((noB (gB g) c0 30), (noC c0))).2.2), (gK g), (gU g), (gE g), (gP g))) rfl ?_
    refine g_topci ((a10 (gU g) x ((noB (gB g) c0 30), (noC c0))).1) rfl ?_
    refine g_iconst C 1 dX2_run_334 (by decide) ?_
    refine g_ixor C dX2_run_335 ?_
    exact g_iret C () hr dX2_run_336 (Nat.le_of_ble_eq_true rfl) (Nat.le_of_ble_eq_true rfl) rfl (rfl)
  · exfalso
    omega

set_option maxRecDepth 100000 in
set_option maxHeartbeats 4000000 in
theorem k_run40 (l : Launch) (D : va_G) (q : Nat → ClassId) (tt : Nat → Nat) (a : Nat → Nat) (g : GC) (c0 : Nat) (as_ : Nat) (ac : Nat) (x : Int32) (d : Nat) (hc : gN g = nI c0) (hc30 : c0 ≤ 30) (hpz : gP g = 0) (hAs : as_ ≤ 5) (hAc : ac ≤ 3) (hb : tBO.getD (as_ * 4 + ac) 0 = 40) (hd : d + 3 ≤ 13) : MI l D q tt yX2_run wsX2_run ({ frames := 4, cells := 0, slots := 0, locals := 96 } : Room) [.ref (a 0), .int (nI as_), .int (nI ac), .int x, .int (nI d)] (sw q a g) (fun (r : Int32) (u : Unit) => r = (a40 (gU g) x ((gB g), c0)).1) (fun (_ : Unit) => (sw q a (((a40 (gU g) x ((gB g), c0)).2.1), (nI (a40 (gU g) x ((gB g), c0)).2.2), (gK g), (gU g), (gE g), (gP g)))) 0 0 := by
  refine MI.of RX2 [(0, .ref (a 0)), (1, .int (nI as_)), (2, .int (nI ac)), (3, .int x), (4, .int (nI d))] (by decide) rfl rfl (Nat.le_of_ble_eq_true rfl) rfl ?_
  intro p e s m args below meth c A C hr hnm
  have w_0 : ∀ w ∈ u_ws RX2 TX2 6, w ∈ wsX2_run := by decide +kernel
  have w_1 : Cond.fieldLink RX2 28 (TX2 5).1 (TX2 5).2.1 (TX2 5).2.2.1 ∈ wsX2_run := by decide +kernel
  refine g_aloadn C dX2_run_0 0 rfl rfl ?_
  refine g_get C fx2 w_0 0 5 (v := .int (gP g)) rfl (by decide) w_1 rfl dX2_run_1 ?_
  refine g_topci 0 (hpz) ?_
  refine g_if_neF C 14 dX2_run_4 rfl (by decide) ?_
  refine g_iload C dX2_run_7 4 rfl ?_
  refine g_bipush C 12 dX2_run_9 (by decide) ?_
  refine g_icmpN_le C 16 (d) (12) dX2_run_11 rfl (by omega) (by omega) (fun c_11 => ?_) (fun c_11 => ?_)
  · refine g_iloadn C dX2_run_16 1 rfl rfl ?_
    refine g_iloadn C dX2_run_17 2 rfl rfl ?_
    refine g_call0i C (rd_S C (k_X2_bodyOf l D q tt as_ ac (by first | assumption | omega) (by first | assumption | omega)) gX2_run_X2_bodyOf rfl rfl rfl 2 ok_X2_bodyOf (rest := []) rfl rfl (Nat.le_of_ble_eq_true rfl) dX2_run_18 ⟨(Nat.le_of_ble_eq_true rfl), (Nat.le_of_ble_eq_true rfl)⟩ ⟨(Nat.le_of_ble_eq_true rfl), (Nat.le_of_ble_eq_true rfl)⟩) (fun _ => rfl) (fun r_18 _ h_18 => ?_)
    obtain rfl := h_18
    refine g_topci 40 (hb) ?_
    refine g_istore C [(5, .int 40), (0, .ref (a 0)), (1, .int (nI as_)), (2, .int (nI ac)), (3, .int x), (4, .int (nI d))] dX2_run_21 (by decide) rfl ?_
    refine g_aloadn C dX2_run_23 1 rfl rfl ?_
    refine g_iload C dX2_run_24 0 rfl ?_
    refine g_callAv C (rd_V C (k_X2_note l D q tt a g c0 40 (by first | assumption | omega) (by first | assumption | omega)) gX2_run_X2_note rfl rfl rfl 1 ok_X2_note rfl 0 rfl rfl (rest := []) rfl rfl (Nat.le_of_ble_eq_true rfl) dX2_run_26 ⟨(Nat.le_of_ble_eq_true rfl), (Nat.le_of_ble_eq_true rfl)⟩ ⟨(Nat.le_of_ble_eq_true rfl), (Nat.le_of_ble_eq_true rfl)⟩) (fun _ h_26 => ?_)
    refine g_iload C dX2_run_29 5 rfl ?_
    refine g_iconst C 1 dX2_run_31 (by decide) ?_
    refine g_iadd C dX2_run_32 ?_
    refine g_topci (nI (d + 1)) ((ix_add rfl rfl)) ?_
    refine g_istore C [(6, .int (nI (d + 1))), (5, .int 40), (0, .ref (a 0)), (1, .int (nI as_)), (2, .int (nI ac)), (3, .int x), (4, .int (nI d))] dX2_run_33 (by decide) rfl ?_
    refine g_iload C dX2_run_35 1 rfl ?_
    refine g_tin C 363 dX2_run_37 (by decide) (by decide) rfl rfl ?_
    refine g_iconst C 0 dX2_run_363 (by decide) ?_
    refine g_aloadn C dX2_run_364 2 rfl rfl ?_
    refine g_iconst C 2 dX2_run_365 (by decide) ?_
    refine g_iconst C 0 dX2_run_366 (by decide) ?_
    refine g_iloadn C dX2_run_367 5 rfl rfl ?_
    refine g_iload C dX2_run_368 0 rfl ?_
    refine g_callAi C (rd_V C (k_run30 l D q tt a ((noB (gB g) c0 40), (nI (noC c0)), (gK g), (gU g), (gE g), (gP g)) (noC c0) 2 0 x (d + 1) rfl (noC_le hc30) hpz (by omega) (by omega) rfl (by omega)) gX2_run_X2_run rfl rfl rfl 4 ok_X2_run rfl 0 rfl rfl (rest := [.int 0]) rfl rfl (Nat.le_of_ble_eq_true rfl) dX2_run_370 ⟨(Nat.le_of_ble_eq_true rfl), (Nat.le_of_ble_eq_true rfl)⟩ ⟨(Nat.le_of_ble_eq_true rfl), (Nat.le_of_ble_eq_true rfl)⟩) (fun r_370 _ h_370 => ?_)
    obtain rfl := h_370
    refine g_wsc (sw q a (((a30 (gU g) x ((noB (gB g) c0 40), (noC c0))).2.1), (nI (a30 (gU g) x ((noB (gB g) c0 40), (noC c0))).2.2), (gK g), (gU g), (gE g), (gP g))) rfl ?_
    refine g_topci ((a30 (gU g) x ((noB (gB g) c0 40), (noC c0))).1) rfl ?_
    refine g_isub C dX2_run_373 ?_
    exact g_iret C () hr dX2_run_374 (Nat.le_of_ble_eq_true rfl) (Nat.le_of_ble_eq_true rfl) rfl (rfl)
  · exfalso
    omega

set_option maxRecDepth 100000 in
set_option maxHeartbeats 4000000 in
theorem k_run51 (l : Launch) (D : va_G) (q : Nat → ClassId) (tt : Nat → Nat) (a : Nat → Nat) (g : GC) (c0 : Nat) (as_ : Nat) (ac : Nat) (x : Int32) (d : Nat) (hc : gN g = nI c0) (hc30 : c0 ≤ 30) (hpz : gP g = 0) (hAs : as_ ≤ 5) (hAc : ac ≤ 3) (hb : tBO.getD (as_ * 4 + ac) 0 = 51) (hd : d + 2 ≤ 13) : MI l D q tt yX2_run wsX2_run ({ frames := 3, cells := 0, slots := 0, locals := 70 } : Room) [.ref (a 0), .int (nI as_), .int (nI ac), .int x, .int (nI d)] (sw q a g) (fun (r : Int32) (u : Unit) => r = (a51 (gU g) x ((gB g), c0)).1) (fun (_ : Unit) => (sw q a (((a51 (gU g) x ((gB g), c0)).2.1), (nI (a51 (gU g) x ((gB g), c0)).2.2), (gK g), (gU g), (gE g), (gP g)))) 0 0 := by
  refine MI.of RX2 [(0, .ref (a 0)), (1, .int (nI as_)), (2, .int (nI ac)), (3, .int x), (4, .int (nI d))] (by decide) rfl rfl (Nat.le_of_ble_eq_true rfl) rfl ?_
  intro p e s m args below meth c A C hr hnm
  have w_0 : ∀ w ∈ u_ws RX2 TX2 6, w ∈ wsX2_run := by decide +kernel
  have w_1 : Cond.fieldLink RX2 28 (TX2 5).1 (TX2 5).2.1 (TX2 5).2.2.1 ∈ wsX2_run := by decide +kernel
  refine g_aloadn C dX2_run_0 0 rfl rfl ?_
  refine g_get C fx2 w_0 0 5 (v := .int (gP g)) rfl (by decide) w_1 rfl dX2_run_1 ?_
  refine g_topci 0 (hpz) ?_
  refine g_if_neF C 14 dX2_run_4 rfl (by decide) ?_
  refine g_iload C dX2_run_7 4 rfl ?_
  refine g_bipush C 12 dX2_run_9 (by decide) ?_
  refine g_icmpN_le C 16 (d) (12) dX2_run_11 rfl (by omega) (by omega) (fun c_11 => ?_) (fun c_11 => ?_)
  · refine g_iloadn C dX2_run_16 1 rfl rfl ?_
    refine g_iloadn C dX2_run_17 2 rfl rfl ?_
    refine g_call0i C (rd_S C (k_X2_bodyOf l D q tt as_ ac (by first | assumption | omega) (by first | assumption | omega)) gX2_run_X2_bodyOf rfl rfl rfl 2 ok_X2_bodyOf (rest := []) rfl rfl (Nat.le_of_ble_eq_true rfl) dX2_run_18 ⟨(Nat.le_of_ble_eq_true rfl), (Nat.le_of_ble_eq_true rfl)⟩ ⟨(Nat.le_of_ble_eq_true rfl), (Nat.le_of_ble_eq_true rfl)⟩) (fun _ => rfl) (fun r_18 _ h_18 => ?_)
    obtain rfl := h_18
    refine g_topci 51 (hb) ?_
    refine g_istore C [(5, .int 51), (0, .ref (a 0)), (1, .int (nI as_)), (2, .int (nI ac)), (3, .int x), (4, .int (nI d))] dX2_run_21 (by decide) rfl ?_
    refine g_aloadn C dX2_run_23 1 rfl rfl ?_
    refine g_iload C dX2_run_24 0 rfl ?_
    refine g_callAv C (rd_V C (k_X2_note l D q tt a g c0 51 (by first | assumption | omega) (by first | assumption | omega)) gX2_run_X2_note rfl rfl rfl 1 ok_X2_note rfl 0 rfl rfl (rest := []) rfl rfl (Nat.le_of_ble_eq_true rfl) dX2_run_26 ⟨(Nat.le_of_ble_eq_true rfl), (Nat.le_of_ble_eq_true rfl)⟩ ⟨(Nat.le_of_ble_eq_true rfl), (Nat.le_of_ble_eq_true rfl)⟩) (fun _ h_26 => ?_)
    refine g_iload C dX2_run_29 5 rfl ?_
    refine g_iconst C 1 dX2_run_31 (by decide) ?_
    refine g_iadd C dX2_run_32 ?_
    refine g_topci (nI (d + 1)) ((ix_add rfl rfl)) ?_
    refine g_istore C [(6, .int (nI (d + 1))), (5, .int 51), (0, .ref (a 0)), (1, .int (nI as_)), (2, .int (nI ac)), (3, .int x), (4, .int (nI d))] dX2_run_33 (by decide) rfl ?_
    refine g_iload C dX2_run_35 1 rfl ?_
    refine g_tin C 421 dX2_run_37 (by decide) (by decide) rfl rfl ?_
    refine g_aloadn C dX2_run_421 2 rfl rfl ?_
    refine g_iconst C 1 dX2_run_422 (by decide) ?_
    refine g_iconst C 0 dX2_run_423 (by decide) ?_
    refine g_iloadn C dX2_run_424 5 rfl rfl ?_
    refine g_iload C dX2_run_425 0 rfl ?_
    refine g_callAi C (rd_V C (k_run10 l D q tt a ((noB (gB g) c0 51), (nI (noC c0)), (gK g), (gU g), (gE g), (gP g)) (noC c0) 1 0 x (d + 1) rfl (noC_le hc30) hpz (by omega) (by omega) rfl (by omega)) gX2_run_X2_run rfl rfl rfl 4 ok_X2_run rfl 0 rfl rfl (rest := []) rfl rfl (Nat.le_of_ble_eq_true rfl) dX2_run_427 ⟨(Nat.le_of_ble_eq_true rfl), (Nat.le_of_ble_eq_true rfl)⟩ ⟨(Nat.le_of_ble_eq_true rfl), (Nat.le_of_ble_eq_true rfl)⟩) (fun r_427 _ h_427 => ?_)
    obtain rfl := h_427
    refine g_wsc (sw q a (((a10 (gU g) x ((noB (gB g) c0 51), (noC c0))).2.1), (nI (a10 (gU g) x ((noB (gB g) c0 51), (noC c0))).2.2), (gK g), (gU g), (gE g), (gP g))) rfl ?_
    refine g_topci ((a10 (gU g) x ((noB (gB g) c0 51), (noC c0))).1) rfl ?_
    refine g_iconst C 3 dX2_run_430 (by decide) ?_
    refine g_imul C dX2_run_431 ?_
    exact g_iret C () hr dX2_run_432 (Nat.le_of_ble_eq_true rfl) (Nat.le_of_ble_eq_true rfl) rfl (rfl)
  · exfalso
    omega

set_option maxRecDepth 100000 in
set_option maxHeartbeats 4000000 in
theorem k_run10D (l : Launch) (D : va_G) (q : Nat → ClassId) (tt : Nat → Nat) (a : Nat → Nat) (g : GC) (c0 : Nat) (as_ : Nat) (ac : Nat) (x : Int32) (d : Nat) (hc : gN g = nI c0) (hc30 : c0 ≤ 30) (hpz : gP g = 0) (hAs : as_ ≤ 5) (hAc : ac ≤ 3) (hb : tBO.getD (as_ * 4 + ac) 0 = 10) (hd : d + 1 ≤ 13) : MI l D q tt yX2_run wsX2_run ({ frames := 4, cells := 0, slots := 0, locals := 96 } : Room) [.ref (a 0), .int (nI as_), .int (nI ac), .int x, .int (nI d)] (sw q a g) (fun (r : Int32) (u : Unit) => r = (a10 (gU g) x ((gB g), c0)).1) (fun (_ : Unit) => (sw q a (((a10 (gU g) x ((gB g), c0)).2.1), (nI (a10 (gU g) x ((gB g), c0)).2.2), (gK g), (gU g), (gE g), (gP g)))) 0 0 := by
  refine MI.of RX2 [(0, .ref (a 0)), (1, .int (nI as_)), (2, .int (nI ac)), (3, .int x), (4, .int (nI d))] (by decide) rfl rfl (Nat.le_of_ble_eq_true rfl) rfl ?_
  intro p e s m args below meth c A C hr hnm
  have w_0 : ∀ w ∈ u_ws RX2 TX2 6, w ∈ wsX2_run := by decide +kernel
  have w_1 : Cond.fieldLink RX2 28 (TX2 5).1 (TX2 5).2.1 (TX2 5).2.2.1 ∈ wsX2_run := by decide +kernel
  have w_2 : Cond.fieldLink RX2 22 (TX2 3).1 (TX2 3).2.1 (TX2 3).2.2.1 ∈ wsX2_run := by decide +kernel
  refine g_aloadn C dX2_run_0 0 rfl rfl ?_
  refine g_get C fx2 w_0 0 5 (v := .int (gP g)) rfl (by decide) w_1 rfl dX2_run_1 ?_
  refine g_topci 0 (hpz) ?_
  refine g_if_neF C 14 dX2_run_4 rfl (by decide) ?_
  refine g_iload C dX2_run_7 4 rfl ?_
  refine g_bipush C 12 dX2_run_9 (by decide) ?_
  refine g_icmpN_le C 16 (d) (12) dX2_run_11 rfl (by omega) (by omega) (fun c_11 => ?_) (fun c_11 => ?_)
  · refine g_iloadn C dX2_run_16 1 rfl rfl ?_
    refine g_iloadn C dX2_run_17 2 rfl rfl ?_
    refine g_call0i C (rd_S C (k_X2_bodyOf l D q tt as_ ac (by first | assumption | omega) (by first | assumption | omega)) gX2_run_X2_bodyOf rfl rfl rfl 2 ok_X2_bodyOf (rest := []) rfl rfl (Nat.le_of_ble_eq_true rfl) dX2_run_18 ⟨(Nat.le_of_ble_eq_true rfl), (Nat.le_of_ble_eq_true rfl)⟩ ⟨(Nat.le_of_ble_eq_true rfl), (Nat.le_of_ble_eq_true rfl)⟩) (fun _ => rfl) (fun r_18 _ h_18 => ?_)
    obtain rfl := h_18
    refine g_topci 10 (hb) ?_
    refine g_istore C [(5, .int 10), (0, .ref (a 0)), (1, .int (nI as_)), (2, .int (nI ac)), (3, .int x), (4, .int (nI d))] dX2_run_21 (by decide) rfl ?_
    refine g_aloadn C dX2_run_23 1 rfl rfl ?_
    refine g_iload C dX2_run_24 0 rfl ?_
    refine g_callAv C (rd_V C (k_X2_note l D q tt a g c0 10 (by first | assumption | omega) (by first | assumption | omega)) gX2_run_X2_note rfl rfl rfl 1 ok_X2_note rfl 0 rfl rfl (rest := []) rfl rfl (Nat.le_of_ble_eq_true rfl) dX2_run_26 ⟨(Nat.le_of_ble_eq_true rfl), (Nat.le_of_ble_eq_true rfl)⟩ ⟨(Nat.le_of_ble_eq_true rfl), (Nat.le_of_ble_eq_true rfl)⟩) (fun _ h_26 => ?_)
    refine g_iload C dX2_run_29 5 rfl ?_
    refine g_iconst C 1 dX2_run_31 (by decide) ?_
    refine g_iadd C dX2_run_32 ?_
    refine g_topci (nI (d + 1)) ((ix_add rfl rfl)) ?_
    refine g_istore C [(6, .int (nI (d + 1))), (5, .int 10), (0, .ref (a 0)), (1, .int (nI as_)), (2, .int (nI ac)), (3, .int x), (4, .int (nI d))] dX2_run_33 (by decide) rfl ?_
    refine g_iload C dX2_run_35 1 rfl ?_
    refine g_tin C 260 dX2_run_37 (by decide) (by decide) rfl rfl ?_
    refine g_iloadn C dX2_run_260 5 rfl rfl ?_
    refine g_aloadn C dX2_run_261 2 rfl rfl ?_
    refine g_get C fx2 w_0 0 3 (v := .int (gU g)) rfl (by decide) w_2 rfl dX2_run_262 ?_
    refine g_bipush C 7 dX2_run_265 (by decide) ?_
    refine g_imul C dX2_run_267 ?_
    refine g_isub C dX2_run_268 ?_
    exact g_iret C () hr dX2_run_269 (Nat.le_of_ble_eq_true rfl) (Nat.le_of_ble_eq_true rfl) rfl (rfl)
  · exfalso
    omega

set_option maxRecDepth 100000 in
set_option maxHeartbeats 4000000 in
theorem k_run30D (l : Launch) (D : va_G) (q : Nat → ClassId) (tt : Nat → Nat) (a : Nat → Nat) (g : GC) (c0 : Nat) (as_ : Nat) (ac : Nat) (x : Int32) (d : Nat) (hc : gN g = nI c0) (hc30 : c0 ≤ 30) (hpz : gP g = 0) (hAs : as_ ≤ 5) (hAc : ac ≤ 3) (hb : tBO.getD (as_ * 4 + ac) 0 = 30) (hd : d + 2 ≤ 13) : MI l D q tt yX2_run wsX2_run ({ frames := 4, cells := 0, slots := 0, locals := 96 } : Room) [.ref (a 0), .int (nI as_), .int (nI ac), .int x, .int (nI d)] (sw q a g) (fun (r : Int32) (u : Unit) => r = (a30 (gU g) x ((gB g), c0)).1) (fun (_ : Unit) => (sw q a (((a30 (gU g) x ((gB g), c0)).2.1), (nI (a30 (gU g) x ((gB g), c0)).2.2), (gK g), (gU g), (gE g), (gP g)))) 0 0 := by
  refine MI.of RX2 [(0, .ref (a 0)), (1, .int (nI as_)), (2, .int (nI ac)), (3, .int x), (4, .int (nI d))] (by decide) rfl rfl (Nat.le_of_ble_eq_true rfl) rfl ?_
  intro p e s m args below meth c A C hr hnm
  have w_0 : ∀ w ∈ u_ws RX2 TX2 6, w ∈ wsX2_run := by decide +kernel
  have w_1 : Cond.fieldLink RX2 28 (TX2 5).1 (TX2 5).2.1 (TX2 5).2.2.1 ∈ wsX2_run := by decide +kernel
  refine g_aloadn C dX2_run_0 0 rfl rfl ?_
  refine g_get C fx2 w_0 0 5 (v := .int (gP g)) rfl (by decide) w_1 rfl dX2_run_1 ?_
  refine g_topci 0 (hpz) ?_
  refine g_if_neF C 14 dX2_run_4 rfl (by decide) ?_
  refine g_iload C dX2_run_7 4 rfl ?_
  refine g_bipush C 12 dX2_run_9 (by decide) ?_
  refine g_icmpN_le C 16 (d) (12) dX2_run_11 rfl (by omega) (by omega) (fun c_11 => ?_) (fun c_11 => ?_)
  · refine g_iloadn C dX2_run_16 1 rfl rfl ?_
    refine g_iloadn C dX2_run_17 2 rfl rfl ?_
    refine g_call0i C (rd_S C (k_X2_bodyOf l D q tt as_ ac (by first | assumption | omega) (by first | assumption | omega)) gX2_run_X2_bodyOf rfl rfl rfl 2 ok_X2_bodyOf (rest := []) rfl rfl (Nat.le_of_ble_eq_true rfl) dX2_run_18 ⟨(Nat.le_of_ble_eq_true rfl), (Nat.le_of_ble_eq_true rfl)⟩ ⟨(Nat.le_of_ble_eq_true rfl), (Nat.le_of_ble_eq_true rfl)⟩) (fun _ => rfl) (fun r_18 _ h_18 => ?_)
    obtain rfl := h_18
    refine g_topci 30 (hb) ?_
    refine g_istore C [(5, .int 30), (0, .ref (a 0)), (1, .int (nI as_)), (2, .int (nI ac)), (3, .int x), (4, .int (nI d))] dX2_run_21 (by decide) rfl ?_
    refine g_aloadn C dX2_run_23 1 rfl rfl ?_
    refine g_iload C dX2_run_24 0 rfl ?_
    refine g_callAv C (rd_V C (k_X2_note l D q tt a g c0 30 (by first | assumption | omega) (by first | assumption | omega)) gX2_run_X2_note rfl rfl rfl 1 ok_X2_note rfl 0 rfl rfl (rest := []) rfl rfl (Nat.le_of_ble_eq_true rfl) dX2_run_26 ⟨(Nat.le_of_ble_eq_true rfl), (Nat.le_of_ble_eq_true rfl)⟩ ⟨(Nat.le_of_ble_eq_true rfl), (Nat.le_of_ble_eq_true rfl)⟩) (fun _ h_26 => ?_)
    refine g_iload C dX2_run_29 5 rfl ?_
    refine g_iconst C 1 dX2_run_31 (by decide) ?_
    refine g_iadd C dX2_run_32 ?_
    refine g_topci (nI (d + 1)) ((ix_add rfl rfl)) ?_
    refine g_istore C [(6, .int (nI (d + 1))), (5, .int 30), (0, .ref (a 0)), (1, .int (nI as_)), (2, .int (nI ac)), (3, .int x), (4, .int (nI d))] dX2_run_33 (by decide) rfl ?_
    refine g_iload C dX2_run_35 1 rfl ?_
    refine g_tin C 325 dX2_run_37 (by decide) (by decide) rfl rfl ?_
    refine g_aloadn C dX2_run_325 2 rfl rfl ?_
    refine g_iconst C 0 dX2_run_326 (by decide) ?_
    refine g_iconst C 0 dX2_run_327 (by decide) ?_
    refine g_iloadn C dX2_run_328 5 rfl rfl ?_
    refine g_iload C dX2_run_329 0 rfl ?_
    refine g_callAi C (rd_V C (k_run10 l D q tt a ((noB (gB g) c0 30), (nI (noC c0)), (gK g), (gU g), (gE g), (gP g)) (noC c0) 0 0 x (d + 1) rfl (noC_le hc30) hpz (by omega) (by omega) rfl (by omega)) gX2_run_X2_run rfl rfl rfl 4 ok_X2_run rfl 0 rfl rfl (rest := []) rfl rfl (Nat.le_of_ble_eq_true rfl) dX2_run_331 ⟨(Nat.le_of_ble_eq_true rfl), (Nat.le_of_ble_eq_true rfl)⟩ ⟨(Nat.le_of_ble_eq_true rfl), (Nat.le_of_ble_eq_true rfl)⟩) (fun r_331 _ h_331 => ?_)
    obtain rfl := h_331
    refine g_wsc (sw q a (((a10 (gU g) x ((noB (gB g) c0 30), (noC c0))).2.1), (nI (a10 (gU g) x ((noB (gB g) c0 30), (noC c0))).2.2), (gK g), (gU g), (gE g), (gP g))) rfl ?_
    refine g_topci ((a10 (gU g) x ((noB (gB g) c0 30), (noC c0))).1) rfl ?_
    refine g_iconst C 1 dX2_run_334 (by decide) ?_
    refine g_ixor C dX2_run_335 ?_
    exact g_iret C () hr dX2_run_336 (Nat.le_of_ble_eq_true rfl) (Nat.le_of_ble_eq_true rfl) rfl (rfl)
  · exfalso
    omega

