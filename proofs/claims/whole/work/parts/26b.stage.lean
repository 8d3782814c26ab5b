set_option maxRecDepth 100000 in
set_option maxHeartbeats 4000000 in
theorem k_run40D (l : Launch) (D : va_G) (q : Nat → ClassId) (tt : Nat → Nat) (a : Nat → Nat) (g : GC) (c0 : Nat) (as_ : Nat) (ac : Nat) (x : Int32) (d : Nat) (hc : gN g = nI c0) (hc30 : c0 ≤ 30) (hpz : gP g = 0) (hAs : as_ ≤ 5) (hAc : ac ≤ 3) (hb : tBO.getD (as_ * 4 + ac) 0 = 40) (hd : d + 3 ≤ 13) : MI l D q tt yX2_run wsX2_run ({ frames := 4, cells := 0, slots := 0, locals := 96 } : Room) [.ref (a 0), .int (nI as_), .int (nI ac), .int x, .int (nI d)] (sw q a g) (fun (r : Int32) (u : Unit) => r = (a40 (gU g) x ((gB g), c0)).1) (fun (_ : Unit) => (sw q a (((a40 (gU g) x ((gB g), c0)).2.1), (nI (a40 (gU g) x ((gB g), c0)).2.2), (gK g), (gU g), (gE g), (gP g)))) 0 0 := by
  refine MI.of RX2 [(0, .ref (a 0)), (1, .int (nI as_)), (2, .int (nI ac)), (3, .int x), (4, .int (nI d))] (by decide) rfl rfl (Nat.le_of_ble_eq_true rfl) rfl ?_
  intro p e s m args below meth c A C hr hnm
  have w_0 : ∀ w ∈ u_ws RX2 TX2 6, w ∈ wsX2_run := by decide +kernel
  have w_1 : Cond.fieldLink RX2 28 (TX2 5).1 (TX2 5).2.1 (TX2 5).2.2.1 ∈ wsX2_run := by decide +kernel
  refine g_aloadn C dX2_run_0 0 rfl rfl ?_
  refine g_get C fx2 w_0 0 5 (v := .int (gP g)) rfl (by decide) w_1 rfl dX2_run_1 ?_
  refine g_topci 0 (hpz) ?_
  refine g_if_neF C 14 dX2_run_4 rfl (by decide) ?_
  refine g_iload C dX2_run_7 4 rfl ?_
  refine g_bipush C 12 dX2_run_9 (by decide) ?_
  refine g_icmpN_le C 16 (d) (12) dX2_run_11 rfl (by omega) (by omega) (fun c_11 => ?_) (fun c_11 => ?_)
  · refine g_iloadn C dX2_run_16 1 rfl rfl ?_
    refine g_iloadn C dX2_run_17 2 rfl rfl ?_
    refine g_call0i C (rd_S C (k_X2_bodyOf l D q tt as_ ac (by first | assumption | omega) (by first | assumption | omega)) gX2_run_X2_bodyOf rfl rfl rfl 2 ok_X2_bodyOf (rest := []) rfl rfl (Nat.le_of_ble_eq_true rfl) dX2_run_18 ⟨(Nat.le_of_ble_eq_true rfl), (Nat.le_of_ble_eq_true rfl)⟩ ⟨(Nat.le_of_ble_eq_true rfl), (Nat.le_of_ble_eq_true rfl)⟩) (fun _ => rfl) (fun r_18 _ h_18 => ?_)
    obtain rfl := h_18
    refine g_topci 40 (hb) ?_
    refine g_istore C [(5, .int 40), (0, .ref (a 0)), (1, .int (nI as_)), (2, .int (nI ac)), (3, .int x), (4, .int (nI d))] dX2_run_21 (by decide) rfl ?_
    refine g_aloadn C dX2_run_23 1 rfl rfl ?_
    refine g_iload C dX2_run_24 0 rfl ?_
    refine g_callAv C (rd_V C (k_X2_note l D q tt a g c0 40 (by first | assumption | omega) (by first | assumption | omega)) gX2_run_X2_note rfl rfl rfl 1 ok_X2_note rfl 0 rfl rfl (rest := []) rfl rfl (Nat.le_of_ble_eq_true rfl) dX2_run_26 ⟨(Nat.le_of_ble_eq_true rfl), (Nat.le_of_ble_eq_true rfl)⟩ ⟨(Nat.le_of_ble_eq_true rfl), (Nat.le_of_ble_eq_true rfl)⟩) (fun _ h_26 => ?_)
    refine g_iload C dX2_run_29 5 rfl ?_
    refine g_iconst C 1 dX2_run_31 (by decide) ?_
    refine g_iadd C dX2_run_32 ?_
    refine g_topci (nI (d + 1)) ((ix_add rfl rfl)) ?_
    refine g_istore C [(6, .int (nI (d + 1))), (5, .int 40), (0, .ref (a 0)), (1, .int (nI as_)), (2, .int (nI ac)), (3, .int x), (4, .int (nI d))] dX2_run_33 (by decide) rfl ?_
    refine g_iload C dX2_run_35 1 rfl ?_
    refine g_tin C 363 dX2_run_37 (by decide) (by decide) rfl rfl ?_
    refine g_iconst C 0 dX2_run_363 (by decide) ?_
    refine g_aloadn C dX2_run_364 2 rfl rfl ?_
    refine g_iconst C 2 dX2_run_365 (by decide) ?_
    refine g_iconst C 0 dX2_run_366 (by decide) ?_
    refine g_iloadn C dX2_run_367 5 rfl rfl ?_
    refine g_iload C dX2_run_368 0 rfl ?_
    refine g_callAi C (rd_V C (k_run30 l D q tt a ((noB (gB g) c0 40), (nI (noC c0)), (gK g), (gU g), (gE g), (gP g)) (noC c0) 2 0 x (d + 1) rfl (noC_le hc30) hpz (by omega) (by omega) rfl (by omega)) gX2_run_X2_run rfl rfl rfl 4 ok_X2_run rfl 0 rfl rfl (rest := [.int 0]) rfl rfl (Nat.le_of_ble_eq_true rfl) dX2_run_370 ⟨(Nat.le_of_ble_eq_true rfl), (Nat.le_of_ble_eq_true rfl)⟩ ⟨(Nat.le_of_ble_eq_true rfl), (Nat.le_of_ble_eq_true rfl)⟩) (fun r_370 _ h_370 => ?_)
    obtain rfl := h_370
    refine g_wsc (sw q a (((a30 (gU g) x ((noB (gB g) c0 40), (noC c0))).2.1), (nI (a30 (gU g) x ((noB (gB g) c0 40), (noC c0))).2.2), (gK g), (gU g), (gE g), (gP g))) rfl ?_
    refine g_topci ((a30 (gU g) x ((noB (gB g) c0 40), (noC c0))).1) rfl ?_
    refine g_isub C dX2_run_373 ?_
    exact g_iret C () hr dX2_run_374 (Nat.le_of_ble_eq_true rfl) (Nat.le_of_ble_eq_true rfl) rfl (rfl)
  · exfalso
    omega

set_option maxRecDepth 100000 in
set_option maxHeartbeats 4000000 in
theorem k_run51D (l : Launch) (D : va_G) (q : Nat → ClassId) (tt : Nat → Nat) (a : Nat → Nat) (g : GC) (c0 : Nat) (as_ : Nat) (ac : Nat) (x : Int32) (d : Nat) (hc : gN g = nI c0) (hc30 : c0 ≤ 30) (hpz : gP g = 0) (hAs : as_ ≤ 5) (hAc : ac ≤ 3) (hb : tBO.getD (as_ * 4 + ac) 0 = 51) (hd : d + 2 ≤ 13) : MI l D q tt yX2_run wsX2_run ({ frames := 4, cells := 0, slots := 0, locals := 96 } : Room) [.ref (a 0), .int (nI as_), .int (nI ac), .int x, .int (nI d)] (sw q a g) (fun (r : Int32) (u : Unit) => r = (a51 (gU g) x ((gB g), c0)).1) (fun (_ : Unit) => (sw q a (((a51 (gU g) x ((gB g), c0)).2.1), (nI (a51 (gU g) x ((gB g), c0)).2.2), (gK g), (gU g), (gE g), (gP g)))) 0 0 := by
  refine MI.of RX2 [(0, .ref (a 0)), (1, .int (nI as_)), (2, .int (nI ac)), (3, .int x), (4, .int (nI d))] (by decide) rfl rfl (Nat.le_of_ble_eq_true rfl) rfl ?_
  intro p e s m args below meth c A C hr hnm
  have w_0 : ∀ w ∈ u_ws RX2 TX2 6, w ∈ wsX2_run := by decide +kernel
  have w_1 : Cond.fieldLink RX2 28 (TX2 5).1 (TX2 5).2.1 (TX2 5).2.2.1 ∈ wsX2_run := by decide +kernel
  refine g_aloadn C dX2_run_0 0 rfl rfl ?_
  refine g_get C fx2 w_0 0 5 (v := .int (gP g)) rfl (by decide) w_1 rfl dX2_run_1 ?_
  refine g_topci 0 (hpz) ?_
  refine g_if_neF C 14 dX2_run_4 rfl (by decide) ?_
  refine g_iload C dX2_run_7 4 rfl ?_
  refine g_bipush C 12 dX2_run_9 (by decide) ?_
  refine g_icmpN_le C 16 (d) (12) dX2_run_11 rfl (by omega) (by omega) (fun c_11 => ?_) (fun c_11 => ?_)
  · refine g_iloadn C dX2_run_16 1 rfl rfl ?_
    refine g_iloadn C dX2_run_17 2 rfl rfl ?_
    refine g_call0i C (rd_S C (k_X2_bodyOf l D q tt as_ ac (by first | assumption | omega) (by first | assumption | omega)) gX2_run_X2_bodyOf rfl rfl rfl 2 ok_X2_bodyOf (rest := []) rfl rfl (Nat.le_of_ble_eq_true rfl) dX2_run_18 ⟨(Nat.le_of_ble_eq_true rfl), (Nat.le_of_ble_eq_true rfl)⟩ ⟨(Nat.le_of_ble_eq_true rfl), (Nat.le_of_ble_eq_true rfl)⟩) (fun _ => rfl) (fun r_18 _ h_18 => ?_)
    obtain rfl := h_18
    refine g_topci 51 (hb) ?_
    refine g_istore C [(5, .int 51), (0, .ref (a 0)), (1, .int (nI as_)), (2, .int (nI ac)), (3, .int x), (4, .int (nI d))] dX2_run_21 (by decide) rfl ?_
    refine g_aloadn C dX2_run_23 1 rfl rfl ?_
    refine g_iload C dX2_run_24 0 rfl ?_
    refine g_callAv C (rd_V C (k_X2_note l D q tt a g c0 51 (by first | assumption | omega) (by first | assumption | omega)) gX2_run_X2_note rfl rfl rfl 1 ok_X2_note rfl 0 rfl rfl (rest := []) rfl rfl (Nat.le_of_ble_eq_true rfl) dX2_run_26 ⟨(Nat.le_of_ble_eq_true rfl), (Nat.le_of_ble_eq_true rfl)⟩ ⟨(Nat.le_of_ble_eq_true rfl), (Nat.le_of_ble_eq_true rfl)⟩) (fun _ h_26 => ?_)
    refine g_iload C dX2_run_29 5 rfl ?_
    refine g_iconst C 1 dX2_run_31 (by decide) ?_
    refine g_iadd C dX2_run_32 ?_
    refine g_topci (nI (d + 1)) ((ix_add rfl rfl)) ?_
    refine g_istore C [(6, .int (nI (d + 1))), (5, .int 51), (0, .ref (a 0)), (1, .int (nI as_)), (2, .int (nI ac)), (3, .int x), (4, .int (nI d))] dX2_run_33 (by decide) rfl ?_
    refine g_iload C dX2_run_35 1 rfl ?_
    refine g_tin C 421 dX2_run_37 (by decide) (by decide) rfl rfl ?_
    refine g_aloadn C dX2_run_421 2 rfl rfl ?_
    refine g_iconst C 1 dX2_run_422 (by decide) ?_
    refine g_iconst C 0 dX2_run_423 (by decide) ?_
    refine g_iloadn C dX2_run_424 5 rfl rfl ?_
    refine g_iload C dX2_run_425 0 rfl ?_
    refine g_callAi C (rd_V C (k_run10 l D q tt a ((noB (gB g) c0 51), (nI (noC c0)), (gK g), (gU g), (gE g), (gP g)) (noC c0) 1 0 x (d + 1) rfl (noC_le hc30) hpz (by omega) (by omega) rfl (by omega)) gX2_run_X2_run rfl rfl rfl 4 ok_X2_run rfl 0 rfl rfl (rest := []) rfl rfl (Nat.le_of_ble_eq_true rfl) dX2_run_427 ⟨(Nat.le_of_ble_eq_true rfl), (Nat.le_of_ble_eq_true rfl)⟩ ⟨(Nat.le_of_ble_eq_true rfl), (Nat.le_of_ble_eq_true rfl)⟩) (fun r_427 _ h_427 => ?_)
    obtain rfl := h_427
    refine g_wsc (sw q a (((a10 (gU g) x ((noB (gB g) c0 51), (noC c0))).2.1), (nI (a10 (gU g) x ((noB (gB g) c0 51), (noC c0))).2.2), (gK g), (gU g), (gE g), (gP g))) rfl ?_
    refine g_topci ((a10 (gU g) x ((noB (gB g) c0 51), (noC c0))).1) rfl ?_
    refine g_iconst C 3 dX2_run_430 (by decide) ?_
    refine g_imul C dX2_run_431 ?_
    exact g_iret C () hr dX2_run_432 (Nat.le_of_ble_eq_true rfl) (Nat.le_of_ble_eq_true rfl) rfl (rfl)
  · exfalso
    omega

set_option maxRecDepth 100000 in
set_option maxHeartbeats 4000000 in
theorem k_runCo (l : Launch) (D : va_G) (q : Nat → ClassId) (tt : Nat → Nat) (a : Nat → Nat) (g : GC) (c0 : Nat) (kd : Nat) (x : Int32) (d : Nat) (hc : gN g = nI c0) (hc30 : c0 ≤ 30) (hkd : gK g = nI kd) (hk5 : kd ≤ 5) (hpz : gP g = 0) (hd : d + 3 ≤ 13) : MI l D q tt yX2_run wsX2_run ({ frames := 4, cells := 0, slots := 0, locals := 96 } : Room) [.ref (a 0), .int (nI kd), .int 0, .int x, .int (nI d)] (sw q a g) (fun (r : Int32) (u : Unit) => r = (aCo (gU g) kd x ((gB g), c0)).1) (fun (_ : Unit) => (sw q a (((aCo (gU g) kd x ((gB g), c0)).2.1), (nI (aCo (gU g) kd x ((gB g), c0)).2.2), (gK g), (gU g), (gE g), (gP g)))) 0 0 := by
  have h6_ : kd = 0 ∨ kd = 1 ∨ kd = 2 ∨ kd = 3 ∨ kd = 4 ∨ kd = 5 := by omega
  rcases h6_ with rfl | rfl | rfl | rfl | rfl | rfl
  · exact k_run10D l D q tt a g c0 0 0 x d hc hc30 hpz (by omega) (by omega) rfl (by omega)
  · exact k_run10D l D q tt a g c0 1 0 x d hc hc30 hpz (by omega) (by omega) rfl (by omega)
  · exact k_run30D l D q tt a g c0 2 0 x d hc hc30 hpz (by omega) (by omega) rfl (by omega)
  · exact k_run51D l D q tt a g c0 3 0 x d hc hc30 hpz (by omega) (by omega) rfl (by omega)
  · exact k_run40D l D q tt a g c0 4 0 x d hc hc30 hpz (by omega) (by omega) rfl (by omega)
  · exact k_run10D l D q tt a g c0 5 0 x d hc hc30 hpz (by omega) (by omega) rfl (by omega)

set_option maxRecDepth 100000 in
set_option maxHeartbeats 4000000 in
theorem k_run11 (l : Launch) (D : va_G) (q : Nat → ClassId) (tt : Nat → Nat) (a : Nat → Nat) (g : GC) (c0 : Nat) (kd : Nat) (as_ : Nat) (ac : Nat) (x : Int32) (d : Nat) (hc : gN g = nI c0) (hc30 : c0 ≤ 30) (hkd : gK g = nI kd) (hk5 : kd ≤ 5) (hpz : gP g = 0) (hAs : as_ ≤ 5) (hAc : ac ≤ 3) (hb : tBO.getD (as_ * 4 + ac) 0 = 11) (hd : d + 4 ≤ 13) : MI l D q tt yX2_run wsX2_run ({ frames := 5, cells := 0, slots := 0, locals := 122 } : Room) [.ref (a 0), .int (nI as_), .int (nI ac), .int x, .int (nI d)] (sw q a g) (fun (r : Int32) (u : Unit) => r = (a11 (gU g) (gE g) kd x ((gB g), c0)).1) (fun (_ : Unit) => (sw q a (((a11 (gU g) (gE g) kd x ((gB g), c0)).2.1), (nI (a11 (gU g) (gE g) kd x ((gB g), c0)).2.2), (gK g), (gU g), (gE g), (gP g)))) 0 0 := by
  refine MI.of RX2 [(0, .ref (a 0)), (1, .int (nI as_)), (2, .int (nI ac)), (3, .int x), (4, .int (nI d))] (by decide) rfl rfl (Nat.le_of_ble_eq_true rfl) rfl ?_
  intro p e s m args below meth c A C hr hnm
  have w_0 : ∀ w ∈ u_ws RX2 TX2 6, w ∈ wsX2_run := by decide +kernel
  have w_1 : Cond.fieldLink RX2 28 (TX2 5).1 (TX2 5).2.1 (TX2 5).2.2.1 ∈ wsX2_run := by decide +kernel
  have w_2 : Cond.fieldLink RX2 19 (TX2 2).1 (TX2 2).2.1 (TX2 2).2.2.1 ∈ wsX2_run := by decide +kernel
  have w_3 : Cond.fieldLink RX2 25 (TX2 4).1 (TX2 4).2.1 (TX2 4).2.2.1 ∈ wsX2_run := by decide +kernel
  refine g_aloadn C dX2_run_0 0 rfl rfl ?_
  refine g_get C fx2 w_0 0 5 (v := .int (gP g)) rfl (by decide) w_1 rfl dX2_run_1 ?_
  refine g_topci 0 (hpz) ?_
  refine g_if_neF C 14 dX2_run_4 rfl (by decide) ?_
  refine g_iload C dX2_run_7 4 rfl ?_
  refine g_bipush C 12 dX2_run_9 (by decide) ?_
  refine g_icmpN_le C 16 (d) (12) dX2_run_11 rfl (by omega) (by omega) (fun c_11 => ?_) (fun c_11 => ?_)
  · refine g_iloadn C dX2_run_16 1 rfl rfl ?_
    refine g_iloadn C dX2_run_17 2 rfl rfl ?_
    refine g_call0i C (rd_S C (k_X2_bodyOf l D q tt as_ ac (by first | assumption | omega) (by first | assumption | omega)) gX2_run_X2_bodyOf rfl rfl rfl 2 ok_X2_bodyOf (rest := []) rfl rfl (Nat.le_of_ble_eq_true rfl) dX2_run_18 ⟨(Nat.le_of_ble_eq_true rfl), (Nat.le_of_ble_eq_true rfl)⟩ ⟨(Nat.le_of_ble_eq_true rfl), (Nat.le_of_ble_eq_true rfl)⟩) (fun _ => rfl) (fun r_18 _ h_18 => ?_)
    obtain rfl := h_18
    refine g_topci 11 (hb) ?_
    refine g_istore C [(5, .int 11), (0, .ref (a 0)), (1, .int (nI as_)), (2, .int (nI ac)), (3, .int x), (4, .int (nI d))] dX2_run_21 (by decide) rfl ?_
    refine g_aloadn C dX2_run_23 1 rfl rfl ?_
    refine g_iload C dX2_run_24 0 rfl ?_
    refine g_callAv C (rd_V C (k_X2_note l D q tt a g c0 11 (by first | assumption | omega) (by first | assumption | omega)) gX2_run_X2_note rfl rfl rfl 1 ok_X2_note rfl 0 rfl rfl (rest := []) rfl rfl (Nat.le_of_ble_eq_true rfl) dX2_run_26 ⟨(Nat.le_of_ble_eq_true rfl), (Nat.le_of_ble_eq_true rfl)⟩ ⟨(Nat.le_of_ble_eq_true rfl), (Nat.le_of_ble_eq_true rfl)⟩) (fun _ h_26 => ?_)
    refine g_iload C dX2_run_29 5 rfl ?_
    refine g_iconst C 1 dX2_run_31 (by decide) ?_
    refine g_iadd C dX2_run_32 ?_
    refine g_topci (nI (d + 1)) ((ix_add rfl rfl)) ?_
    refine g_istore C [(6, .int (nI (d + 1))), (5, .int 11), (0, .ref (a 0)), (1, .int (nI as_)), (2, .int (nI ac)), (3, .int x), (4, .int (nI d))] dX2_run_33 (by decide) rfl ?_
    refine g_iload C dX2_run_35 1 rfl ?_
    refine g_tin C 270 dX2_run_37 (by decide) (by decide) rfl rfl ?_
    refine g_aloadn C dX2_run_270 2 rfl rfl ?_
    refine g_aloadn C dX2_run_271 2 rfl rfl ?_
    refine g_get C fx2 w_0 0 2 (v := .int (gK g)) rfl (by decide) w_2 rfl dX2_run_272 ?_
    refine g_topci (nI kd) (hkd) ?_
    refine g_iconst C 0 dX2_run_275 (by decide) ?_
    refine g_iloadn C dX2_run_276 5 rfl rfl ?_
    refine g_iload C dX2_run_277 0 rfl ?_
    refine g_callAi C (rd_V C (k_runCo l D q tt a ((noB (gB g) c0 11), (nI (noC c0)), (gK g), (gU g), (gE g), (gP g)) (noC c0) kd x (d + 1) rfl (noC_le hc30) hkd hk5 hpz (by omega)) gX2_run_X2_run rfl rfl rfl 4 ok_X2_run rfl 0 rfl rfl (rest := []) rfl rfl (Nat.le_of_ble_eq_true rfl) dX2_run_279 ⟨(Nat.le_of_ble_eq_true rfl), (Nat.le_of_ble_eq_true rfl)⟩ ⟨(Nat.le_of_ble_eq_true rfl), (Nat.le_of_ble_eq_true rfl)⟩) (fun r_279 _ h_279 => ?_)
    obtain rfl := h_279
    refine g_wsc (sw q a (((aCo (gU g) kd x ((noB (gB g) c0 11), (noC c0))).2.1), (nI (aCo (gU g) kd x ((noB (gB g) c0 11), (noC c0))).2.2), (gK g), (gU g), (gE g), (gP g))) rfl ?_
    refine g_topci ((aCo (gU g) kd x ((noB (gB g) c0 11), (noC c0))).1) rfl ?_
    refine g_iconst C 2 dX2_run_282 (by decide) ?_
    refine g_imul C dX2_run_283 ?_
    refine g_aloadn C dX2_run_284 2 rfl rfl ?_
    refine g_get C fx2 w_0 0 4 (v := .int (gE g)) rfl (by decide) w_3 rfl dX2_run_285 ?_
    refine g_iadd C dX2_run_288 ?_
    exact g_iret C () hr dX2_run_289 (Nat.le_of_ble_eq_true rfl) (Nat.le_of_ble_eq_true rfl) rfl (rfl)
  · exfalso
    omega

set_option maxRecDepth 100000 in
set_option maxHeartbeats 4000000 in
theorem k_run20 (l : Launch) (D : va_G) (q : Nat → ClassId) (tt : Nat → Nat) (a : Nat → Nat) (g : GC) (c0 : Nat) (kd : Nat) (as_ : Nat) (ac : Nat) (x : Int32) (d : Nat) (hc : gN g = nI c0) (hc30 : c0 ≤ 30) (hkd : gK g = nI kd) (hk5 : kd ≤ 5) (hpz : gP g = 0) (hAs : as_ ≤ 5) (hAc : ac ≤ 3) (hb : tBO.getD (as_ * 4 + ac) 0 = 20) (hd : d + 5 ≤ 13) : MI l D q tt yX2_run wsX2_run ({ frames := 6, cells := 0, slots := 0, locals := 148 } : Room) [.ref (a 0), .int (nI as_), .int (nI ac), .int x, .int (nI d)] (sw q a g) (fun (r : Int32) (u : Unit) => r = (a20 (gU g) (gE g) kd x ((gB g), c0)).1) (fun (_ : Unit) => (sw q a (((a20 (gU g) (gE g) kd x ((gB g), c0)).2.1), (nI (a20 (gU g) (gE g) kd x ((gB g), c0)).2.2), (gK g), (gU g), (gE g), (gP g)))) 0 0 := by
  refine MI.of RX2 [(0, .ref (a 0)), (1, .int (nI as_)), (2, .int (nI ac)), (3, .int x), (4, .int (nI d))] (by decide) rfl rfl (Nat.le_of_ble_eq_true rfl) rfl ?_
  intro p e s m args below meth c A C hr hnm
  have w_0 : ∀ w ∈ u_ws RX2 TX2 6, w ∈ wsX2_run := by decide +kernel
  have w_1 : Cond.fieldLink RX2 28 (TX2 5).1 (TX2 5).2.1 (TX2 5).2.2.1 ∈ wsX2_run := by decide +kernel
  refine g_aloadn C dX2_run_0 0 rfl rfl ?_
  refine g_get C fx2 w_0 0 5 (v := .int (gP g)) rfl (by decide) w_1 rfl dX2_run_1 ?_
  refine g_topci 0 (hpz) ?_
  refine g_if_neF C 14 dX2_run_4 rfl (by decide) ?_
  refine g_iload C dX2_run_7 4 rfl ?_
  refine g_bipush C 12 dX2_run_9 (by decide) ?_
  refine g_icmpN_le C 16 (d) (12) dX2_run_11 rfl (by omega) (by omega) (fun c_11 => ?_) (fun c_11 => ?_)
  · refine g_iloadn C dX2_run_16 1 rfl rfl ?_
    refine g_iloadn C dX2_run_17 2 rfl rfl ?_
    refine g_call0i C (rd_S C (k_X2_bodyOf l D q tt as_ ac (by first | assumption | omega) (by first | assumption | omega)) gX2_run_X2_bodyOf rfl rfl rfl 2 ok_X2_bodyOf (rest := []) rfl rfl (Nat.le_of_ble_eq_true rfl) dX2_run_18 ⟨(Nat.le_of_ble_eq_true rfl), (Nat.le_of_ble_eq_true rfl)⟩ ⟨(Nat.le_of_ble_eq_true rfl), (Nat.le_of_ble_eq_true rfl)⟩) (fun _ => rfl) (fun r_18 _ h_18 => ?_)
    obtain rfl := h_18
    refine g_topci 20 (hb) ?_
    refine g_istore C [(5, .int 20), (0, .ref (a 0)), (1, .int (nI as_)), (2, .int (nI ac)), (3, .int x), (4, .int (nI d))] dX2_run_21 (by decide) rfl ?_
    refine g_aloadn C dX2_run_23 1 rfl rfl ?_
    refine g_iload C dX2_run_24 0 rfl ?_
    refine g_callAv C (rd_V C (k_X2_note l D q tt a g c0 20 (by first | assumption | omega) (by first | assumption | omega)) gX2_run_X2_note rfl rfl rfl 1 ok_X2_note rfl 0 rfl rfl (rest := []) rfl rfl (Nat.le_of_ble_eq_true rfl) dX2_run_26 ⟨(Nat.le_of_ble_eq_true rfl), (Nat.le_of_ble_eq_true rfl)⟩ ⟨(Nat.le_of_ble_eq_true rfl), (Nat.le_of_ble_eq_true rfl)⟩) (fun _ h_26 => ?_)
    refine g_iload C dX2_run_29 5 rfl ?_
    refine g_iconst C 1 dX2_run_31 (by decide) ?_
    refine g_iadd C dX2_run_32 ?_
    refine g_topci (nI (d + 1)) ((ix_add rfl rfl)) ?_
    refine g_istore C [(6, .int (nI (d + 1))), (5, .int 20), (0, .ref (a 0)), (1, .int (nI as_)), (2, .int (nI ac)), (3, .int x), (4, .int (nI d))] dX2_run_33 (by decide) rfl ?_
    refine g_iload C dX2_run_35 1 rfl ?_
    refine g_tin C 312 dX2_run_37 (by decide) (by decide) rfl rfl ?_
    refine g_aloadn C dX2_run_312 2 rfl rfl ?_
    refine g_iconst C 0 dX2_run_313 (by decide) ?_
    refine g_iconst C 1 dX2_run_314 (by decide) ?_
    refine g_iloadn C dX2_run_315 5 rfl rfl ?_
    refine g_iload C dX2_run_316 0 rfl ?_
    refine g_callAi C (rd_V C (k_run11 l D q tt a ((noB (gB g) c0 20), (nI (noC c0)), (gK g), (gU g), (gE g), (gP g)) (noC c0) kd 0 1 x (d + 1) rfl (noC_le hc30) hkd hk5 hpz (by omega) (by omega) rfl (by omega)) gX2_run_X2_run rfl rfl rfl 4 ok_X2_run rfl 0 rfl rfl (rest := []) rfl rfl (Nat.le_of_ble_eq_true rfl) dX2_run_318 ⟨(Nat.le_of_ble_eq_true rfl), (Nat.le_of_ble_eq_true rfl)⟩ ⟨(Nat.le_of_ble_eq_true rfl), (Nat.le_of_ble_eq_true rfl)⟩) (fun r_318 _ h_318 => ?_)
    obtain rfl := h_318
    refine g_wsc (sw q a (((a11 (gU g) (gE g) kd x ((noB (gB g) c0 20), (noC c0))).2.1), (nI (a11 (gU g) (gE g) kd x ((noB (gB g) c0 20), (noC c0))).2.2), (gK g), (gU g), (gE g), (gP g))) rfl ?_
    refine g_topci ((a11 (gU g) (gE g) kd x ((noB (gB g) c0 20), (noC c0))).1) rfl ?_
    refine g_bipush C 8 dX2_run_321 (by decide) ?_
    refine g_isub C dX2_run_323 ?_
    exact g_iret C () hr dX2_run_324 (Nat.le_of_ble_eq_true rfl) (Nat.le_of_ble_eq_true rfl) rfl (rfl)
  · exfalso
    omega

set_option maxRecDepth 100000 in
set_option maxHeartbeats 4000000 in
theorem k_run41 (l : Launch) (D : va_G) (q : Nat → ClassId) (tt : Nat → Nat) (a : Nat → Nat) (g : GC) (c0 : Nat) (kd : Nat) (as_ : Nat) (ac : Nat) (x : Int32) (d : Nat) (hc : gN g = nI c0) (hc30 : c0 ≤ 30) (hkd : gK g = nI kd) (hk5 : kd ≤ 5) (hpz : gP g = 0) (hAs : as_ ≤ 5) (hAc : ac ≤ 3) (hb : tBO.getD (as_ * 4 + ac) 0 = 41) (hd : d + 5 ≤ 13) : MI l D q tt yX2_run wsX2_run ({ frames := 6, cells := 0, slots := 0, locals := 148 } : Room) [.ref (a 0), .int (nI as_), .int (nI ac), .int x, .int (nI d)] (sw q a g) (fun (r : Int32) (u : Unit) => r = (a41 (gU g) (gE g) kd x ((gB g), c0)).1) (fun (_ : Unit) => (sw q a (((a41 (gU g) (gE g) kd x ((gB g), c0)).2.1), (nI (a41 (gU g) (gE g) kd x ((gB g), c0)).2.2), (gK g), (gU g), (gE g), (gP g)))) 0 0 := by
  refine MI.of RX2 [(0, .ref (a 0)), (1, .int (nI as_)), (2, .int (nI ac)), (3, .int x), (4, .int (nI d))] (by decide) rfl rfl (Nat.le_of_ble_eq_true rfl) rfl ?_
  intro p e s m args below meth c A C hr hnm
  have w_0 : ∀ w ∈ u_ws RX2 TX2 6, w ∈ wsX2_run := by decide +kernel
  have w_1 : Cond.fieldLink RX2 28 (TX2 5).1 (TX2 5).2.1 (TX2 5).2.2.1 ∈ wsX2_run := by decide +kernel
  have w_2 : Cond.fieldLink RX2 19 (TX2 2).1 (TX2 2).2.1 (TX2 2).2.2.1 ∈ wsX2_run := by decide +kernel
  have w_3 : Cond.fieldLink RX2 25 (TX2 4).1 (TX2 4).2.1 (TX2 4).2.2.1 ∈ wsX2_run := by decide +kernel
  refine g_aloadn C dX2_run_0 0 rfl rfl ?_
  refine g_get C fx2 w_0 0 5 (v := .int (gP g)) rfl (by decide) w_1 rfl dX2_run_1 ?_
  refine g_topci 0 (hpz) ?_
  refine g_if_neF C 14 dX2_run_4 rfl (by decide) ?_
  refine g_iload C dX2_run_7 4 rfl ?_
  refine g_bipush C 12 dX2_run_9 (by decide) ?_
  refine g_icmpN_le C 16 (d) (12) dX2_run_11 rfl (by omega) (by omega) (fun c_11 => ?_) (fun c_11 => ?_)
  · refine g_iloadn C dX2_run_16 1 rfl rfl ?_
    refine g_iloadn C dX2_run_17 2 rfl rfl ?_
    refine g_call0i C (rd_S C (k_X2_bodyOf l D q tt as_ ac (by first | assumption | omega) (by first | assumption | omega)) gX2_run_X2_bodyOf rfl rfl rfl 2 ok_X2_bodyOf (rest := []) rfl rfl (Nat.le_of_ble_eq_true rfl) dX2_run_18 ⟨(Nat.le_of_ble_eq_true rfl), (Nat.le_of_ble_eq_true rfl)⟩ ⟨(Nat.le_of_ble_eq_true rfl), (Nat.le_of_ble_eq_true rfl)⟩) (fun _ => rfl) (fun r_18 _ h_18 => ?_)
    obtain rfl := h_18
    refine g_topci 41 (hb) ?_
    refine g_istore C [(5, .int 41), (0, .ref (a 0)), (1, .int (nI as_)), (2, .int (nI ac)), (3, .int x), (4, .int (nI d))] dX2_run_21 (by decide) rfl ?_
    refine g_aloadn C dX2_run_23 1 rfl rfl ?_
    refine g_iload C dX2_run_24 0 rfl ?_
    refine g_callAv C (rd_V C (k_X2_note l D q tt a g c0 41 (by first | assumption | omega) (by first | assumption | omega)) gX2_run_X2_note rfl rfl rfl 1 ok_X2_note rfl 0 rfl rfl (rest := []) rfl rfl (Nat.le_of_ble_eq_true rfl) dX2_run_26 ⟨(Nat.le_of_ble_eq_true rfl), (Nat.le_of_ble_eq_true rfl)⟩ ⟨(Nat.le_of_ble_eq_true rfl), (Nat.le_of_ble_eq_true rfl)⟩) (fun _ h_26 => ?_)
    refine g_iload C dX2_run_29 5 rfl ?_
    refine g_iconst C 1 dX2_run_31 (by decide) ?_
    refine g_iadd C dX2_run_32 ?_
    refine g_topci (nI (d + 1)) ((ix_add rfl rfl)) ?_
    refine g_istore C [(6, .int (nI (d + 1))), (5, .int 41), (0, .ref (a 0)), (1, .int (nI as_)), (2, .int (nI ac)), (3, .int x), (4, .int (nI d))] dX2_run_33 (by decide) rfl ?_
    refine g_iload C dX2_run_35 1 rfl ?_
    refine g_tin C 375 dX2_run_37 (by decide) (by decide) rfl rfl ?_
    refine g_aloadn C dX2_run_375 2 rfl rfl ?_
    refine g_iconst C 2 dX2_run_376 (by decide) ?_
    refine g_iconst C 1 dX2_run_377 (by decide) ?_
    refine g_iloadn C dX2_run_378 5 rfl rfl ?_
    refine g_iload C dX2_run_379 0 rfl ?_
    refine g_callAi C (rd_V C (k_run11 l D q tt a ((noB (gB g) c0 41), (nI (noC c0)), (gK g), (gU g), (gE g), (gP g)) (noC c0) kd 2 1 x (d + 1) rfl (noC_le hc30) hkd hk5 hpz (by omega) (by omega) rfl (by omega)) gX2_run_X2_run rfl rfl rfl 4 ok_X2_run rfl 0 rfl rfl (rest := []) rfl rfl (Nat.le_of_ble_eq_true rfl) dX2_run_381 ⟨(Nat.le_of_ble_eq_true rfl), (Nat.le_of_ble_eq_true rfl)⟩ ⟨(Nat.le_of_ble_eq_true rfl), (Nat.le_of_ble_eq_true rfl)⟩) (fun r_381 _ h_381 => ?_)
    obtain rfl := h_381
    refine g_wsc (sw q a (((a11 (gU g) (gE g) kd x ((noB (gB g) c0 41), (noC c0))).2.1), (nI (a11 (gU g) (gE g) kd x ((noB (gB g) c0 41), (noC c0))).2.2), (gK g), (gU g), (gE g), (gP g))) rfl ?_
    refine g_topci ((a11 (gU g) (gE g) kd x ((noB (gB g) c0 41), (noC c0))).1) rfl ?_
    refine g_aloadn C dX2_run_384 2 rfl rfl ?_
    refine g_aloadn C dX2_run_385 2 rfl rfl ?_
    refine g_get C fx2 w_0 0 2 (v := .int (gK g)) rfl (by decide) w_2 rfl dX2_run_386 ?_
    refine g_topci (nI kd) (hkd) ?_
    refine g_iconst C 0 dX2_run_389 (by decide) ?_
    refine g_aloadn C dX2_run_390 2 rfl rfl ?_
    refine g_get C fx2 w_0 0 4 (v := .int (gE g)) rfl (by decide) w_3 rfl dX2_run_391 ?_
    refine g_iload C dX2_run_394 0 rfl ?_
    refine g_callAi C (rd_V C (k_runCo l D q tt a (((a11 (gU g) (gE g) kd x ((noB (gB g) c0 41), (noC c0))).2.1), (nI (a11 (gU g) (gE g) kd x ((noB (gB g) c0 41), (noC c0))).2.2), (gK g), (gU g), (gE g), (gP g)) ((a11 (gU g) (gE g) kd x (noS ((gB g), c0) 41)).2.2) kd (gE g) (d + 1) rfl (a11_le (n := (gU g)) (a := (gE g)) (x := x) (kd := kd) (z := (noS ((gB g), c0) 41)) (noC_le hc30)) hkd hk5 hpz (by omega)) gX2_run_X2_run rfl rfl rfl 4 ok_X2_run rfl 0 rfl rfl (rest := [.int ((a11 (gU g) (gE g) kd x ((noB (gB g) c0 41), (noC c0))).1)]) rfl rfl (Nat.le_of_ble_eq_true rfl) dX2_run_396 ⟨(Nat.le_of_ble_eq_true rfl), (Nat.le_of_ble_eq_true rfl)⟩ ⟨(Nat.le_of_ble_eq_true rfl), (Nat.le_of_ble_eq_true rfl)⟩) (fun r_396 _ h_396 => ?_)
    obtain rfl := h_396
    refine g_wsc (sw q a (((aCo (gU g) kd (gE g) ((a11 (gU g) (gE g) kd x ((noB (gB g) c0 41), (noC c0))).2.1, ((a11 (gU g) (gE g) kd x (noS ((gB g), c0) 41)).2.2))).2.1), (nI (aCo (gU g) kd (gE g) ((a11 (gU g) (gE g) kd x ((noB (gB g) c0 41), (noC c0))).2.1, ((a11 (gU g) (gE g) kd x (noS ((gB g), c0) 41)).2.2))).2.2), (gK g), (gU g), (gE g), (gP g))) rfl ?_
    refine g_topci ((aCo (gU g) kd (gE g) ((a11 (gU g) (gE g) kd x ((noB (gB g) c0 41), (noC c0))).2.1, ((a11 (gU g) (gE g) kd x (noS ((gB g), c0) 41)).2.2))).1) rfl ?_
    refine g_iadd C dX2_run_399 ?_
    exact g_iret C () hr dX2_run_400 (Nat.le_of_ble_eq_true rfl) (Nat.le_of_ble_eq_true rfl) rfl (rfl)
  · exfalso
    omega

set_option maxRecDepth 100000 in
set_option maxHeartbeats 4000000 in
theorem k_run11D (l : Launch) (D : va_G) (q : Nat → ClassId) (tt : Nat → Nat) (a : Nat → Nat) (g : GC) (c0 : Nat) (kd : Nat) (as_ : Nat) (ac : Nat) (x : Int32) (d : Nat) (hc : gN g = nI c0) (hc30 : c0 ≤ 30) (hkd : gK g = nI kd) (hk5 : kd ≤ 5) (hpz : gP g = 0) (hAs : as_ ≤ 5) (hAc : ac ≤ 3) (hb : tBO.getD (as_ * 4 + ac) 0 = 11) (hd : d + 4 ≤ 13) : MI l D q tt yX2_run wsX2_run ({ frames := 6, cells := 0, slots := 0, locals := 148 } : Room) [.ref (a 0), .int (nI as_), .int (nI ac), .int x, .int (nI d)] (sw q a g) (fun (r : Int32) (u : Unit) => r = (a11 (gU g) (gE g) kd x ((gB g), c0)).1) (fun (_ : Unit) => (sw q a (((a11 (gU g) (gE g) kd x ((gB g), c0)).2.1), (nI (a11 (gU g) (gE g) kd x ((gB g), c0)).2.2), (gK g), (gU g), (gE g), (gP g)))) 0 0 := by
  refine MI.of RX2 [(0, .ref (a 0)), (1, .int (nI as_)), (2, .int (nI ac)), (3, .int x), (4, .int (nI d))] (by decide) rfl rfl (Nat.le_of_ble_eq_true rfl) rfl ?_
  intro p e s m args below meth c A C hr hnm
  have w_0 : ∀ w ∈ u_ws RX2 TX2 6, w ∈ wsX2_run := by decide +kernel
  have w_1 : Cond.fieldLink RX2 28 (TX2 5).1 (TX2 5).2.1 (TX2 5).2.2.1 ∈ wsX2_run := by decide +kernel
  have w_2 : Cond.fieldLink RX2 19 (TX2 2).1 (TX2 2).2.1 (TX2 2).2.2.1 ∈ wsX2_run := by decide +kernel
  have w_3 : Cond.fieldLink RX2 25 (TX2 4).1 (TX2 4).2.1 (TX2 4).2.2.1 ∈ wsX2_run := by decide +kernel
  refine g_aloadn C dX2_run_0 0 rfl rfl ?_
  refine g_get C fx2 w_0 0 5 (v := .int (gP g)) rfl (by decide) w_1 rfl dX2_run_1 ?_
  refine g_topci 0 (hpz) ?_
  refine g_if_neF C 14 dX2_run_4 rfl (by decide) ?_
  refine g_iload C dX2_run_7 4 rfl ?_
  refine g_bipush C 12 dX2_run_9 (by decide) ?_
  refine g_icmpN_le C 16 (d) (12) dX2_run_11 rfl (by omega) (by omega) (fun c_11 => ?_) (fun c_11 => ?_)
  · refine g_iloadn C dX2_run_16 1 rfl rfl ?_
    refine g_iloadn C dX2_run_17 2 rfl rfl ?_
    refine g_call0i C (rd_S C (k_X2_bodyOf l D q tt as_ ac (by first | assumption | omega) (by first | assumption | omega)) gX2_run_X2_bodyOf rfl rfl rfl 2 ok_X2_bodyOf (rest := []) rfl rfl (Nat.le_of_ble_eq_true rfl) dX2_run_18 ⟨(Nat.le_of_ble_eq_true rfl), (Nat.le_of_ble_eq_true rfl)⟩ ⟨(Nat.le_of_ble_eq_true rfl), (Nat.le_of_ble_eq_true rfl)⟩) (fun _ => rfl) (fun r_18 _ h_18 => ?_)
    obtain rfl := h_18
    refine g_topci 11 (hb) ?_
    refine g_istore C [(5, .int 11), (0, .ref (a 0)), (1, .int (nI as_)), (2, .int (nI ac)), (3, .int x), (4, .int (nI d))] dX2_run_21 (by decide) rfl ?_
    refine g_aloadn C dX2_run_23 1 rfl rfl ?_
    refine g_iload C dX2_run_24 0 rfl ?_
    refine g_callAv C (rd_V C (k_X2_note l D q tt a g c0 11 (by first | assumption | omega) (by first | assumption | omega)) gX2_run_X2_note rfl rfl rfl 1 ok_X2_note rfl 0 rfl rfl (rest := []) rfl rfl (Nat.le_of_ble_eq_true rfl) dX2_run_26 ⟨(Nat.le_of_ble_eq_true rfl), (Nat.le_of_ble_eq_true rfl)⟩ ⟨(Nat.le_of_ble_eq_true rfl), (Nat.le_of_ble_eq_true rfl)⟩) (fun _ h_26 => ?_)
    refine g_iload C dX2_run_29 5 rfl ?_
    refine g_iconst C 1 dX2_run_31 (by decide) ?_
    refine g_iadd C dX2_run_32 ?_
    refine g_topci (nI (d + 1)) ((ix_add rfl rfl)) ?_
    refine g_istore C [(6, .int (nI (d + 1))), (5, .int 11), (0, .ref (a 0)), (1, .int (nI as_)), (2, .int (nI ac)), (3, .int x), (4, .int (nI d))] dX2_run_33 (by decide) rfl ?_
    refine g_iload C dX2_run_35 1 rfl ?_
    refine g_tin C 270 dX2_run_37 (by decide) (by decide) rfl rfl ?_
    refine g_aloadn C dX2_run_270 2 rfl rfl ?_
    refine g_aloadn C dX2_run_271 2 rfl rfl ?_
    refine g_get C fx2 w_0 0 2 (v := .int (gK g)) rfl (by decide) w_2 rfl dX2_run_272 ?_
    refine g_topci (nI kd) (hkd) ?_
    refine g_iconst C 0 dX2_run_275 (by decide) ?_
    refine g_iloadn C dX2_run_276 5 rfl rfl ?_
    refine g_iload C dX2_run_277 0 rfl ?_
    refine g_callAi C (rd_V C (k_runCo l D q tt a ((noB (gB g) c0 11), (nI (noC c0)), (gK g), (gU g), (gE g), (gP g)) (noC c0) kd x (d + 1) rfl (noC_le hc30) hkd hk5 hpz (by omega)) gX2_run_X2_run rfl rfl rfl 4 ok_X2_run rfl 0 rfl rfl (rest := []) rfl rfl (Nat.le_of_ble_eq_true rfl) dX2_run_279 ⟨(Nat.le_of_ble_eq_true rfl), (Nat.le_of_ble_eq_true rfl)⟩ ⟨(Nat.le_of_ble_eq_true rfl), (Nat.le_of_ble_eq_true rfl)⟩) (fun r_279 _ h_279 => ?_)
    obtain rfl := h_279
    refine g_wsc (sw q a (((aCo (gU g) kd x ((noB (gB g) c0 11), (noC c0))).2.1), (nI (aCo (gU g) kd x ((noB (gB g) c0 11), (noC c0))).2.2), (gK g), (gU g), (gE g), (gP g))) rfl ?_
    refine g_topci ((aCo (gU g) kd x ((noB (gB g) c0 11), (noC c0))).1) rfl ?_
    refine g_iconst C 2 dX2_run_282 (by decide) ?_
    refine g_imul C dX2_run_283 ?_
    refine g_aloadn C dX2_run_284 2 rfl rfl ?_
    refine g_get C fx2 w_0 0 4 (v := .int (gE g)) rfl (by decide) w_3 rfl dX2_run_285 ?_
    refine g_iadd C dX2_run_288 ?_
    exact g_iret C () hr dX2_run_289 (Nat.le_of_ble_eq_true rfl) (Nat.le_of_ble_eq_true rfl) rfl (rfl)
  · exfalso
    omega

set_option maxRecDepth 100000 in
set_option maxHeartbeats 4000000 in
theorem k_run20D (l : Launch) (D : va_G) (q : Nat → ClassId) (tt : Nat → Nat) (a : Nat → Nat) (g : GC) (c0 : Nat) (kd : Nat) (as_ : Nat) (ac : Nat) (x : Int32) (d : Nat) (hc : gN g = nI c0) (hc30 : c0 ≤ 30) (hkd : gK g = nI kd) (hk5 : kd ≤ 5) (hpz : gP g = 0) (hAs : as_ ≤ 5) (hAc : ac ≤ 3) (hb : tBO.getD (as_ * 4 + ac) 0 = 20) (hd : d + 5 ≤ 13) : MI l D q tt yX2_run wsX2_run ({ frames := 6, cells := 0, slots := 0, locals := 148 } : Room) [.ref (a 0), .int (nI as_), .int (nI ac), .int x, .int (nI d)] (sw q a g) (fun (r : Int32) (u : Unit) => r = (a20 (gU g) (gE g) kd x ((gB g), c0)).1) (fun (_ : Unit) => (sw q a (((a20 (gU g) (gE g) kd x ((gB g), c0)).2.1), (nI (a20 (gU g) (gE g) kd x ((gB g), c0)).2.2), (gK g), (gU g), (gE g), (gP g)))) 0 0 := by
  refine MI.of RX2 [(0, .ref (a 0)), (1, .int (nI as_)), (2, .int (nI ac)), (3, .int x), (4, .int (nI d))] (by decide) rfl rfl (Nat.le_of_ble_eq_true rfl) rfl ?_
  intro p e s m args below meth c A C hr hnm
  have w_0 : ∀ w ∈ u_ws RX2 TX2 6, w ∈ wsX2_run := by decide +kernel
  have w_1 : Cond.fieldLink RX2 28 (TX2 5).1 (TX2 5).2.1 (TX2 5).2.2.1 ∈ wsX2_run := by decide +kernel
  refine g_aloadn C dX2_run_0 0 rfl rfl ?_
  refine g_get C fx2 w_0 0 5 (v := .int (gP g)) rfl (by decide) w_1 rfl dX2_run_1 ?_
  refine g_topci 0 (hpz) ?_
  refine g_if_neF C 14 dX2_run_4 rfl (by decide) ?_
  refine g_iload C dX2_run_7 4 rfl ?_
  refine g_bipush C 12 dX2_run_9 (by decide) ?_
  refine g_icmpN_le C 16 (d) (12) dX2_run_11 rfl (by omega) (by omega) (fun c_11 => ?_) (fun c_11 => ?_)
  · refine g_iloadn C dX2_run_16 1 rfl rfl ?_
    refine g_iloadn C dX2_run_17 2 rfl rfl ?_
    refine g_call0i C (rd_S C (k_X2_bodyOf l D q tt as_ ac (by first | assumption | omega) (by first | assumption | omega)) gX2_run_X2_bodyOf rfl rfl rfl 2 ok_X2_bodyOf (rest := []) rfl rfl (Nat.le_of_ble_eq_true rfl) dX2_run_18 ⟨(Nat.le_of_ble_eq_true rfl), (Nat.le_of_ble_eq_true rfl)⟩ ⟨(Nat.le_of_ble_eq_true rfl), (Nat.le_of_ble_eq_true rfl)⟩) (fun _ => rfl) (fun r_18 _ h_18 => ?_)
    obtain rfl := h_18
    refine g_topci 20 (hb) ?_
    refine g_istore C [(5, .int 20), (0, .ref (a 0)), (1, .int (nI as_)), (2, .int (nI ac)), (3, .int x), (4, .int (nI d))] dX2_run_21 (by decide) rfl ?_
    refine g_aloadn C dX2_run_23 1 rfl rfl ?_
    refine g_iload C dX2_run_24 0 rfl ?_
    refine g_callAv C (rd_V C (k_X2_note l D q tt a g c0 20 (by first | assumption | omega) (by first | assumption | omega)) gX2_run_X2_note rfl rfl rfl 1 ok_X2_note rfl 0 rfl rfl (rest := []) rfl rfl (Nat.le_of_ble_eq_true rfl) dX2_run_26 ⟨(Nat.le_of_ble_eq_true rfl), (Nat.le_of_ble_eq_true rfl)⟩ ⟨(Nat.le_of_ble_eq_true rfl), (Nat.le_of_ble_eq_true rfl)⟩) (fun _ h_26 => ?_)
    refine g_iload C dX2_run_29 5 rfl ?_
    refine g_iconst C 1 dX2_run_31 (by decide) ?_
    refine g_iadd C dX2_run_32 ?_
    refine g_topci (nI (d + 1)) ((ix_add rfl rfl)) ?_
    refine g_istore C [(6, .int (nI (d + 1))), (5, .int 20), (0, .ref (a 0)), (1, .int (nI as_)), (2, .int (nI ac)), (3, .int x), (4, .int (nI d))] dX2_run_33 (by decide) rfl ?_
    refine g_iload C dX2_run_35 1 rfl ?_
    refine g_tin C 312 dX2_run_37 (by decide) (by decide) rfl rfl ?_
    refine g_aloadn C dX2_run_312 2 rfl rfl ?_
    refine g_iconst C 0 dX2_run_313 (by decide) ?_
    refine g_iconst C 1 dX2_run_314 (by decide) ?_
    refine g_iloadn C dX2_run_315 5 rfl rfl ?_
    refine g_iload C dX2_run_316 0 rfl ?_
    refine g_callAi C (rd_V C (k_run11 l D q tt a ((noB (gB g) c0 20), (nI (noC c0)), (gK g), (gU g), (gE g), (gP g)) (noC c0) kd 0 1 x (d + 1) rfl (noC_le hc30) hkd hk5 hpz (by omega) (by omega) rfl (by omega)) gX2_run_X2_run rfl rfl rfl 4 ok_X2_run rfl 0 rfl rfl (rest := []) rfl rfl (Nat.le_of_ble_eq_true rfl) dX2_run_318 ⟨(Nat.le_of_ble_eq_true rfl), (Nat.le_of_ble_eq_true rfl)⟩ ⟨(Nat.le_of_ble_eq_true rfl), (Nat.le_of_ble_eq_true rfl)⟩) (fun r_318 _ h_318 => ?_)
    obtain rfl := h_318
    refine g_wsc (sw q a (((a11 (gU g) (gE g) kd x ((noB (gB g) c0 20), (noC c0))).2.1), (nI (a11 (gU g) (gE g) kd x ((noB (gB g) c0 20), (noC c0))).2.2), (gK g), (gU g), (gE g), (gP g))) rfl ?_
    refine g_topci ((a11 (gU g) (gE g) kd x ((noB (gB g) c0 20), (noC c0))).1) rfl ?_
    refine g_bipush C 8 dX2_run_321 (by decide) ?_
    refine g_isub C dX2_run_323 ?_
    exact g_iret C () hr dX2_run_324 (Nat.le_of_ble_eq_true rfl) (Nat.le_of_ble_eq_true rfl) rfl (rfl)
  · exfalso
    omega

