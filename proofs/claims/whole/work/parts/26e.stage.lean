set_option maxRecDepth 100000 in
set_option maxHeartbeats 4000000 in
theorem k_run13LD (l : Launch) (D : va_G) (q : Nat → ClassId) (tt : Nat → Nat) (a : Nat → Nat) (g : GC) (c0 : Nat) (kd : Nat) (as_ : Nat) (ac : Nat) (x : Int32) (d : Nat) (hc : gN g = nI c0) (hc30 : c0 ≤ 30) (hkd : gK g = nI kd) (hk5 : kd ≤ 5) (hpz : gP g = 0) (hAs : as_ ≤ 5) (hAc : ac ≤ 3) (hb : tBO.getD (as_ * 4 + ac) 0 = 13) (hd : d + 6 ≤ 13) : MI l D q tt yX2_run wsX2_run ({ frames := 8, cells := 0, slots := 0, locals := 200 } : Room) [.ref (a 0), .int (nI as_), .int (nI ac), .int x, .int (nI d)] (sw q a g) (fun (r : Int32) (u : Unit) => r = ((a13 (gU g) (gE g) kd x ((gB g), c0)).1, (a13 (gU g) (gE g) kd x ((gB g), c0)).2, (0 : Int32)).1) (fun (_ : Unit) => (sw q a ((((a13 (gU g) (gE g) kd x ((gB g), c0)).1, (a13 (gU g) (gE g) kd x ((gB g), c0)).2, (0 : Int32)).2.1.1), (nI ((a13 (gU g) (gE g) kd x ((gB g), c0)).1, (a13 (gU g) (gE g) kd x ((gB g), c0)).2, (0 : Int32)).2.1.2), (gK g), (gU g), (gE g), (((a13 (gU g) (gE g) kd x ((gB g), c0)).1, (a13 (gU g) (gE g) kd x ((gB g), c0)).2, (0 : Int32)).2.2)))) 0 0 := by
  refine MI.of RX2 [(0, .ref (a 0)), (1, .int (nI as_)), (2, .int (nI ac)), (3, .int x), (4, .int (nI d))] (by decide) rfl rfl (Nat.le_of_ble_eq_true rfl) rfl ?_
  intro p e s m args below meth c A C hr hnm
  have w_0 : ∀ w ∈ u_ws RX2 TX2 6, w ∈ wsX2_run := by decide +kernel
  have w_1 : Cond.fieldLink RX2 28 (TX2 5).1 (TX2 5).2.1 (TX2 5).2.2.1 ∈ wsX2_run := by decide +kernel
  have w_2 : Cond.fieldLink RX2 19 (TX2 2).1 (TX2 2).2.1 (TX2 2).2.2.1 ∈ wsX2_run := by decide +kernel
  refine g_aloadn C dX2_run_0 0 rfl rfl ?_
  refine g_get C fx2 w_0 0 5 (v := .int (gP g)) rfl (by decide) w_1 rfl dX2_run_1 ?_
  refine g_topci 0 (hpz) ?_
  refine g_if_neF C 14 dX2_run_4 rfl (by decide) ?_
  refine g_iload C dX2_run_7 4 rfl ?_
  refine g_bipush C 12 dX2_run_9 (by decide) ?_
  refine g_icmpN_le C 16 (d) (12) dX2_run_11 rfl (by omega) (by omega) (fun c_11 => ?_) (fun c_11 => ?_)
  · refine g_iloadn C dX2_run_16 1 rfl rfl ?_
    refine g_iloadn C dX2_run_17 2 rfl rfl ?_
    refine g_call0i C (rd_S C (k_X2_bodyOf l D q tt as_ ac (by first | assumption | omega) (by first | assumption | omega)) gX2_run_X2_bodyOf rfl rfl rfl 2 ok_X2_bodyOf (rest := []) rfl rfl (Nat.le_of_ble_eq_true rfl) dX2_run_18 ⟨(Nat.le_of_ble_eq_true rfl), (Nat.le_of_ble_eq_true rfl)⟩ ⟨(Nat.le_of_ble_eq_true rfl), (Nat.le_of_ble_eq_true rfl)⟩) (fun _ => rfl) (fun r_18 _ h_18 => ?_)
    obtain rfl := h_18
    refine g_topci 13 (hb) ?_
    refine g_istore C [(5, .int 13), (0, .ref (a 0)), (1, .int (nI as_)), (2, .int (nI ac)), (3, .int x), (4, .int (nI d))] dX2_run_21 (by decide) rfl ?_
    refine g_aloadn C dX2_run_23 1 rfl rfl ?_
    refine g_iload C dX2_run_24 0 rfl ?_
    refine g_callAv C (rd_V C (k_X2_note l D q tt a g c0 13 (by first | assumption | omega) (by first | assumption | omega)) gX2_run_X2_note rfl rfl rfl 1 ok_X2_note rfl 0 rfl rfl (rest := []) rfl rfl (Nat.le_of_ble_eq_true rfl) dX2_run_26 ⟨(Nat.le_of_ble_eq_true rfl), (Nat.le_of_ble_eq_true rfl)⟩ ⟨(Nat.le_of_ble_eq_true rfl), (Nat.le_of_ble_eq_true rfl)⟩) (fun _ h_26 => ?_)
    refine g_iload C dX2_run_29 5 rfl ?_
    refine g_iconst C 1 dX2_run_31 (by decide) ?_
    refine g_iadd C dX2_run_32 ?_
    refine g_topci (nI (d + 1)) ((ix_add rfl rfl)) ?_
    refine g_istore C [(6, .int (nI (d + 1))), (5, .int 13), (0, .ref (a 0)), (1, .int (nI as_)), (2, .int (nI ac)), (3, .int x), (4, .int (nI d))] dX2_run_33 (by decide) rfl ?_
    refine g_iload C dX2_run_35 1 rfl ?_
    refine g_tin C 296 dX2_run_37 (by decide) (by decide) rfl rfl ?_
    refine g_aloadn C dX2_run_296 2 rfl rfl ?_
    refine g_aloadn C dX2_run_297 2 rfl rfl ?_
    refine g_get C fx2 w_0 0 2 (v := .int (gK g)) rfl (by decide) w_2 rfl dX2_run_298 ?_
    refine g_topci (nI kd) (hkd) ?_
    refine g_iconst C 1 dX2_run_301 (by decide) ?_
    refine g_iloadn C dX2_run_302 5 rfl rfl ?_
    refine g_iload C dX2_run_303 0 rfl ?_
    refine g_callAi C (rd_V C (k_runLa l D q tt a ((noB (gB g) c0 13), (nI (noC c0)), (gK g), (gU g), (gE g), (gP g)) (noC c0) kd x (d + 1) rfl (noC_le hc30) hkd hk5 hpz (by omega)) gX2_run_X2_run rfl rfl rfl 4 ok_X2_run rfl 0 rfl rfl (rest := []) rfl rfl (Nat.le_of_ble_eq_true rfl) dX2_run_305 ⟨(Nat.le_of_ble_eq_true rfl), (Nat.le_of_ble_eq_true rfl)⟩ ⟨(Nat.le_of_ble_eq_true rfl), (Nat.le_of_ble_eq_true rfl)⟩) (fun r_305 _ h_305 => ?_)
    obtain rfl := h_305
    refine g_wsc (sw q a (((aLa (gU g) (gE g) kd x ((noB (gB g) c0 13), (noC c0))).2.1), (nI (aLa (gU g) (gE g) kd x ((noB (gB g) c0 13), (noC c0))).2.2), (gK g), (gU g), (gE g), (gP g))) rfl ?_
    refine g_topci ((aLa (gU g) (gE g) kd x ((noB (gB g) c0 13), (noC c0))).1) rfl ?_
    refine g_bipush C 90 dX2_run_308 (by decide) ?_
    refine g_ixor C dX2_run_310 ?_
    refine g_wsc (sw q a (((aLa (gU g) (gE g) kd x ((noB (gB g) c0 13), (noC c0))).2.1), (nI (aLa (gU g) (gE g) kd x ((noB (gB g) c0 13), (noC c0))).2.2), (gK g), (gU g), (gE g), 0)) (by rw [hpz]) ?_
    exact g_iret C () hr dX2_run_311 (Nat.le_of_ble_eq_true rfl) (Nat.le_of_ble_eq_true rfl) rfl (rfl)
  · exfalso
    omega

set_option maxRecDepth 100000 in
set_option maxHeartbeats 4000000 in
theorem k_run60LD (l : Launch) (D : va_G) (q : Nat → ClassId) (tt : Nat → Nat) (a : Nat → Nat) (g : GC) (c0 : Nat) (kd : Nat) (as_ : Nat) (ac : Nat) (x : Int32) (d : Nat) (hc : gN g = nI c0) (hc30 : c0 ≤ 30) (hkd : gK g = nI kd) (hk5 : kd ≤ 5) (hpz : gP g = 0) (hAs : as_ ≤ 5) (hAc : ac ≤ 3) (hb : tBO.getD (as_ * 4 + ac) 0 = 60) (hd : d + 7 ≤ 13) : MI l D q tt yX2_run wsX2_run ({ frames := 8, cells := 0, slots := 0, locals := 200 } : Room) [.ref (a 0), .int (nI as_), .int (nI ac), .int x, .int (nI d)] (sw q a g) (fun (r : Int32) (u : Unit) => r = ((a60 (gU g) (gE g) kd x ((gB g), c0)).1, (a60 (gU g) (gE g) kd x ((gB g), c0)).2, (0 : Int32)).1) (fun (_ : Unit) => (sw q a ((((a60 (gU g) (gE g) kd x ((gB g), c0)).1, (a60 (gU g) (gE g) kd x ((gB g), c0)).2, (0 : Int32)).2.1.1), (nI ((a60 (gU g) (gE g) kd x ((gB g), c0)).1, (a60 (gU g) (gE g) kd x ((gB g), c0)).2, (0 : Int32)).2.1.2), (gK g), (gU g), (gE g), (((a60 (gU g) (gE g) kd x ((gB g), c0)).1, (a60 (gU g) (gE g) kd x ((gB g), c0)).2, (0 : Int32)).2.2)))) 0 0 := by
  refine MI.of RX2 [(0, .ref (a 0)), (1, .int (nI as_)), (2, .int (nI ac)), (3, .int x), (4, .int (nI d))] (by decide) rfl rfl (Nat.le_of_ble_eq_true rfl) rfl ?_
  intro p e s m args below meth c A C hr hnm
  have w_0 : ∀ w ∈ u_ws RX2 TX2 6, w ∈ wsX2_run := by decide +kernel
  have w_1 : Cond.fieldLink RX2 28 (TX2 5).1 (TX2 5).2.1 (TX2 5).2.2.1 ∈ wsX2_run := by decide +kernel
  refine g_aloadn C dX2_run_0 0 rfl rfl ?_
  refine g_get C fx2 w_0 0 5 (v := .int (gP g)) rfl (by decide) w_1 rfl dX2_run_1 ?_
  refine g_topci 0 (hpz) ?_
  refine g_if_neF C 14 dX2_run_4 rfl (by decide) ?_
  refine g_iload C dX2_run_7 4 rfl ?_
  refine g_bipush C 12 dX2_run_9 (by decide) ?_
  refine g_icmpN_le C 16 (d) (12) dX2_run_11 rfl (by omega) (by omega) (fun c_11 => ?_) (fun c_11 => ?_)
  · refine g_iloadn C dX2_run_16 1 rfl rfl ?_
    refine g_iloadn C dX2_run_17 2 rfl rfl ?_
    refine g_call0i C (rd_S C (k_X2_bodyOf l D q tt as_ ac (by first | assumption | omega) (by first | assumption | omega)) gX2_run_X2_bodyOf rfl rfl rfl 2 ok_X2_bodyOf (rest := []) rfl rfl (Nat.le_of_ble_eq_true rfl) dX2_run_18 ⟨(Nat.le_of_ble_eq_true rfl), (Nat.le_of_ble_eq_true rfl)⟩ ⟨(Nat.le_of_ble_eq_true rfl), (Nat.le_of_ble_eq_true rfl)⟩) (fun _ => rfl) (fun r_18 _ h_18 => ?_)
    obtain rfl := h_18
    refine g_topci 60 (hb) ?_
    refine g_istore C [(5, .int 60), (0, .ref (a 0)), (1, .int (nI as_)), (2, .int (nI ac)), (3, .int x), (4, .int (nI d))] dX2_run_21 (by decide) rfl ?_
    refine g_aloadn C dX2_run_23 1 rfl rfl ?_
    refine g_iload C dX2_run_24 0 rfl ?_
    refine g_callAv C (rd_V C (k_X2_note l D q tt a g c0 60 (by first | assumption | omega) (by first | assumption | omega)) gX2_run_X2_note rfl rfl rfl 1 ok_X2_note rfl 0 rfl rfl (rest := []) rfl rfl (Nat.le_of_ble_eq_true rfl) dX2_run_26 ⟨(Nat.le_of_ble_eq_true rfl), (Nat.le_of_ble_eq_true rfl)⟩ ⟨(Nat.le_of_ble_eq_true rfl), (Nat.le_of_ble_eq_true rfl)⟩) (fun _ h_26 => ?_)
    refine g_iload C dX2_run_29 5 rfl ?_
    refine g_iconst C 1 dX2_run_31 (by decide) ?_
    refine g_iadd C dX2_run_32 ?_
    refine g_topci (nI (d + 1)) ((ix_add rfl rfl)) ?_
    refine g_istore C [(6, .int (nI (d + 1))), (5, .int 60), (0, .ref (a 0)), (1, .int (nI as_)), (2, .int (nI ac)), (3, .int x), (4, .int (nI d))] dX2_run_33 (by decide) rfl ?_
    refine g_iload C dX2_run_35 1 rfl ?_
    refine g_tin C 433 dX2_run_37 (by decide) (by decide) rfl rfl ?_
    refine g_iconst C 5 dX2_run_433 (by decide) ?_
    refine g_aloadn C dX2_run_434 2 rfl rfl ?_
    refine g_iconst C 0 dX2_run_435 (by decide) ?_
    refine g_iconst C 3 dX2_run_436 (by decide) ?_
    refine g_iloadn C dX2_run_437 5 rfl rfl ?_
    refine g_iload C dX2_run_438 0 rfl ?_
    refine g_callAi C (rd_V C (k_run13 l D q tt a ((noB (gB g) c0 60), (nI (noC c0)), (gK g), (gU g), (gE g), (gP g)) (noC c0) kd 0 3 x (d + 1) rfl (noC_le hc30) hkd hk5 hpz (by omega) (by omega) rfl (by omega)) gX2_run_X2_run rfl rfl rfl 4 ok_X2_run rfl 0 rfl rfl (rest := [.int 5]) rfl rfl (Nat.le_of_ble_eq_true rfl) dX2_run_440 ⟨(Nat.le_of_ble_eq_true rfl), (Nat.le_of_ble_eq_true rfl)⟩ ⟨(Nat.le_of_ble_eq_true rfl), (Nat.le_of_ble_eq_true rfl)⟩) (fun r_440 _ h_440 => ?_)
    obtain rfl := h_440
    refine g_wsc (sw q a (((a13 (gU g) (gE g) kd x ((noB (gB g) c0 60), (noC c0))).2.1), (nI (a13 (gU g) (gE g) kd x ((noB (gB g) c0 60), (noC c0))).2.2), (gK g), (gU g), (gE g), (gP g))) rfl ?_
    refine g_topci ((a13 (gU g) (gE g) kd x ((noB (gB g) c0 60), (noC c0))).1) rfl ?_
    refine g_isub C dX2_run_443 ?_
    refine g_wsc (sw q a (((a13 (gU g) (gE g) kd x ((noB (gB g) c0 60), (noC c0))).2.1), (nI (a13 (gU g) (gE g) kd x ((noB (gB g) c0 60), (noC c0))).2.2), (gK g), (gU g), (gE g), 0)) (by rw [hpz]) ?_
    exact g_iret C () hr dX2_run_444 (Nat.le_of_ble_eq_true rfl) (Nat.le_of_ble_eq_true rfl) rfl (rfl)
  · exfalso
    omega

set_option maxRecDepth 100000 in
set_option maxHeartbeats 4000000 in
theorem k_run31D (l : Launch) (D : va_G) (q : Nat → ClassId) (tt : Nat → Nat) (a : Nat → Nat) (g : GC) (c0 : Nat) (kd : Nat) (as_ : Nat) (ac : Nat) (x : Int32) (d : Nat) (hc : gN g = nI c0) (hc30 : c0 ≤ 30) (hkd : gK g = nI kd) (hk5 : kd ≤ 5) (hpz : gP g = 0) (hAs : as_ ≤ 5) (hAc : ac ≤ 3) (hb : tBO.getD (as_ * 4 + ac) 0 = 31) (hd : d + 7 ≤ 13) : MI l D q tt yX2_run wsX2_run ({ frames := 8, cells := 0, slots := 0, locals := 200 } : Room) [.ref (a 0), .int (nI as_), .int (nI ac), .int x, .int (nI d)] (sw q a g) (fun (r : Int32) (u : Unit) => r = (a31 (gU g) (gE g) kd x ((gB g), c0)).1) (fun (_ : Unit) => (sw q a (((a31 (gU g) (gE g) kd x ((gB g), c0)).2.1.1), (nI (a31 (gU g) (gE g) kd x ((gB g), c0)).2.1.2), (gK g), (gU g), (gE g), ((a31 (gU g) (gE g) kd x ((gB g), c0)).2.2)))) 0 0 := by
  refine MI.of RX2 [(0, .ref (a 0)), (1, .int (nI as_)), (2, .int (nI ac)), (3, .int x), (4, .int (nI d))] (by decide) rfl rfl (Nat.le_of_ble_eq_true rfl) rfl ?_
  intro p e s m args below meth c A C hr hnm
  have w_0 : ∀ w ∈ u_ws RX2 TX2 6, w ∈ wsX2_run := by decide +kernel
  have w_1 : Cond.fieldLink RX2 28 (TX2 5).1 (TX2 5).2.1 (TX2 5).2.2.1 ∈ wsX2_run := by decide +kernel
  have w_2 : Cond.fieldLink RX2 19 (TX2 2).1 (TX2 2).2.1 (TX2 2).2.2.1 ∈ wsX2_run := by decide +kernel
  have w_3 : Cond.fieldLink RX2 22 (TX2 3).1 (TX2 3).2.1 (TX2 3).2.2.1 ∈ wsX2_run := by decide +kernel
  refine g_aloadn C dX2_run_0 0 rfl rfl ?_
  refine g_get C fx2 w_0 0 5 (v := .int (gP g)) rfl (by decide) w_1 rfl dX2_run_1 ?_
  refine g_topci 0 (hpz) ?_
  refine g_if_neF C 14 dX2_run_4 rfl (by decide) ?_
  refine g_iload C dX2_run_7 4 rfl ?_
  refine g_bipush C 12 dX2_run_9 (by decide) ?_
  refine g_icmpN_le C 16 (d) (12) dX2_run_11 rfl (by omega) (by omega) (fun c_11 => ?_) (fun c_11 => ?_)
  · refine g_iloadn C dX2_run_16 1 rfl rfl ?_
    refine g_iloadn C dX2_run_17 2 rfl rfl ?_
    refine g_call0i C (rd_S C (k_X2_bodyOf l D q tt as_ ac (by first | assumption | omega) (by first | assumption | omega)) gX2_run_X2_bodyOf rfl rfl rfl 2 ok_X2_bodyOf (rest := []) rfl rfl (Nat.le_of_ble_eq_true rfl) dX2_run_18 ⟨(Nat.le_of_ble_eq_true rfl), (Nat.le_of_ble_eq_true rfl)⟩ ⟨(Nat.le_of_ble_eq_true rfl), (Nat.le_of_ble_eq_true rfl)⟩) (fun _ => rfl) (fun r_18 _ h_18 => ?_)
    obtain rfl := h_18
    refine g_topci 31 (hb) ?_
    refine g_istore C [(5, .int 31), (0, .ref (a 0)), (1, .int (nI as_)), (2, .int (nI ac)), (3, .int x), (4, .int (nI d))] dX2_run_21 (by decide) rfl ?_
    refine g_aloadn C dX2_run_23 1 rfl rfl ?_
    refine g_iload C dX2_run_24 0 rfl ?_
    refine g_callAv C (rd_V C (k_X2_note l D q tt a g c0 31 (by first | assumption | omega) (by first | assumption | omega)) gX2_run_X2_note rfl rfl rfl 1 ok_X2_note rfl 0 rfl rfl (rest := []) rfl rfl (Nat.le_of_ble_eq_true rfl) dX2_run_26 ⟨(Nat.le_of_ble_eq_true rfl), (Nat.le_of_ble_eq_true rfl)⟩ ⟨(Nat.le_of_ble_eq_true rfl), (Nat.le_of_ble_eq_true rfl)⟩) (fun _ h_26 => ?_)
    refine g_iload C dX2_run_29 5 rfl ?_
    refine g_iconst C 1 dX2_run_31 (by decide) ?_
    refine g_iadd C dX2_run_32 ?_
    refine g_topci (nI (d + 1)) ((ix_add rfl rfl)) ?_
    refine g_istore C [(6, .int (nI (d + 1))), (5, .int 31), (0, .ref (a 0)), (1, .int (nI as_)), (2, .int (nI ac)), (3, .int x), (4, .int (nI d))] dX2_run_33 (by decide) rfl ?_
    refine g_iload C dX2_run_35 1 rfl ?_
    refine g_tin C 337 dX2_run_37 (by decide) (by decide) rfl rfl ?_
    refine g_aloadn C dX2_run_337 2 rfl rfl ?_
    refine g_iconst C 0 dX2_run_338 (by decide) ?_
    refine g_iconst C 3 dX2_run_339 (by decide) ?_
    refine g_iloadn C dX2_run_340 5 rfl rfl ?_
    refine g_iload C dX2_run_341 0 rfl ?_
    refine g_callAi C (rd_V C (k_run13 l D q tt a ((noB (gB g) c0 31), (nI (noC c0)), (gK g), (gU g), (gE g), (gP g)) (noC c0) kd 0 3 x (d + 1) rfl (noC_le hc30) hkd hk5 hpz (by omega) (by omega) rfl (by omega)) gX2_run_X2_run rfl rfl rfl 4 ok_X2_run rfl 0 rfl rfl (rest := []) rfl rfl (Nat.le_of_ble_eq_true rfl) dX2_run_343 ⟨(Nat.le_of_ble_eq_true rfl), (Nat.le_of_ble_eq_true rfl)⟩ ⟨(Nat.le_of_ble_eq_true rfl), (Nat.le_of_ble_eq_true rfl)⟩) (fun r_343 _ h_343 => ?_)
    obtain rfl := h_343
    refine g_wsc (sw q a (((a13 (gU g) (gE g) kd x ((noB (gB g) c0 31), (noC c0))).2.1), (nI (a13 (gU g) (gE g) kd x ((noB (gB g) c0 31), (noC c0))).2.2), (gK g), (gU g), (gE g), (gP g))) rfl ?_
    refine g_topci ((a13 (gU g) (gE g) kd x ((noB (gB g) c0 31), (noC c0))).1) rfl ?_
    refine g_aloadn C dX2_run_346 2 rfl rfl ?_
    refine g_aloadn C dX2_run_347 2 rfl rfl ?_
    refine g_get C fx2 w_0 0 2 (v := .int (gK g)) rfl (by decide) w_2 rfl dX2_run_348 ?_
    refine g_topci (nI kd) (hkd) ?_
    refine g_iconst C 2 dX2_run_351 (by decide) ?_
    refine g_aloadn C dX2_run_352 2 rfl rfl ?_
    refine g_get C fx2 w_0 0 3 (v := .int (gU g)) rfl (by decide) w_3 rfl dX2_run_353 ?_
    refine g_iload C dX2_run_356 0 rfl ?_
    refine g_callAi C (rd_V C (k_runPa l D q tt a (((a13 (gU g) (gE g) kd x ((noB (gB g) c0 31), (noC c0))).2.1), (nI (a13 (gU g) (gE g) kd x ((noB (gB g) c0 31), (noC c0))).2.2), (gK g), (gU g), (gE g), (gP g)) ((a13 (gU g) (gE g) kd x (noS ((gB g), c0) 31)).2.2) kd (gU g) (d + 1) rfl (a13_le (n := (gU g)) (a := (gE g)) (x := x) (kd := kd) (z := (noS ((gB g), c0) 31)) (noC_le hc30)) hkd hk5 hpz (by omega)) gX2_run_X2_run rfl rfl rfl 4 ok_X2_run rfl 0 rfl rfl (rest := [.int ((a13 (gU g) (gE g) kd x ((noB (gB g) c0 31), (noC c0))).1)]) rfl rfl (Nat.le_of_ble_eq_true rfl) dX2_run_358 ⟨(Nat.le_of_ble_eq_true rfl), (Nat.le_of_ble_eq_true rfl)⟩ ⟨(Nat.le_of_ble_eq_true rfl), (Nat.le_of_ble_eq_true rfl)⟩) (fun r_358 _ h_358 => ?_)
    obtain rfl := h_358
    refine g_wsc (sw q a (((aPa (gU g) (gE g) kd (gU g) ((a13 (gU g) (gE g) kd x ((noB (gB g) c0 31), (noC c0))).2.1, ((a13 (gU g) (gE g) kd x (noS ((gB g), c0) 31)).2.2))).2.1.1), (nI (aPa (gU g) (gE g) kd (gU g) ((a13 (gU g) (gE g) kd x ((noB (gB g) c0 31), (noC c0))).2.1, ((a13 (gU g) (gE g) kd x (noS ((gB g), c0) 31)).2.2))).2.1.2), (gK g), (gU g), (gE g), ((aPa (gU g) (gE g) kd (gU g) ((a13 (gU g) (gE g) kd x ((noB (gB g) c0 31), (noC c0))).2.1, ((a13 (gU g) (gE g) kd x (noS ((gB g), c0) 31)).2.2))).2.2))) rfl ?_
    refine g_topci ((aPa (gU g) (gE g) kd (gU g) ((a13 (gU g) (gE g) kd x ((noB (gB g) c0 31), (noC c0))).2.1, ((a13 (gU g) (gE g) kd x (noS ((gB g), c0) 31)).2.2))).1) rfl ?_
    refine g_isub C dX2_run_361 ?_
    exact g_iret C () hr dX2_run_362 (Nat.le_of_ble_eq_true rfl) (Nat.le_of_ble_eq_true rfl) rfl (rfl)
  · exfalso
    omega

set_option maxRecDepth 100000 in
set_option maxHeartbeats 4000000 in
theorem k_runRi (l : Launch) (D : va_G) (q : Nat → ClassId) (tt : Nat → Nat) (a : Nat → Nat) (g : GC) (c0 : Nat) (kd : Nat) (x : Int32) (d : Nat) (hc : gN g = nI c0) (hc30 : c0 ≤ 30) (hkd : gK g = nI kd) (hk5 : kd ≤ 5) (hpz : gP g = 0) (hd : d + 7 ≤ 13) : MI l D q tt yX2_run wsX2_run ({ frames := 8, cells := 0, slots := 0, locals := 200 } : Room) [.ref (a 0), .int (nI kd), .int 3, .int x, .int (nI d)] (sw q a g) (fun (r : Int32) (u : Unit) => r = (aRi (gU g) (gE g) kd x ((gB g), c0)).1) (fun (_ : Unit) => (sw q a (((aRi (gU g) (gE g) kd x ((gB g), c0)).2.1.1), (nI (aRi (gU g) (gE g) kd x ((gB g), c0)).2.1.2), (gK g), (gU g), (gE g), ((aRi (gU g) (gE g) kd x ((gB g), c0)).2.2)))) 0 0 := by
  have h6_ : kd = 0 ∨ kd = 1 ∨ kd = 2 ∨ kd = 3 ∨ kd = 4 ∨ kd = 5 := by omega
  rcases h6_ with rfl | rfl | rfl | rfl | rfl | rfl
  · exact k_run13LD l D q tt a g c0 0 0 3 x d hc hc30 hkd hk5 hpz (by omega) (by omega) rfl (by omega)
  · exact k_run13LD l D q tt a g c0 1 1 3 x d hc hc30 hkd hk5 hpz (by omega) (by omega) rfl (by omega)
  · exact k_run31D l D q tt a g c0 2 2 3 x d hc hc30 hkd hk5 hpz (by omega) (by omega) rfl (by omega)
  · exact k_run13LD l D q tt a g c0 3 3 3 x d hc hc30 hkd hk5 hpz (by omega) (by omega) rfl (by omega)
  · exact k_run31D l D q tt a g c0 4 4 3 x d hc hc30 hkd hk5 hpz (by omega) (by omega) rfl (by omega)
  · exact k_run60LD l D q tt a g c0 5 5 3 x d hc hc30 hkd hk5 hpz (by omega) (by omega) rfl (by omega)

set_option maxRecDepth 100000 in
set_option maxHeartbeats 4000000 in
theorem k_play0 (l : Launch) (D : va_G) (q : Nat → ClassId) (tt : Nat → Nat) (a : Nat → Nat) (g : GC) (c0 : Nat) (kd : Nat) (n : Int32) (ea : Int32) (x : Int32) (hc : gN g = nI c0) (hc30 : c0 ≤ 30) (hk5 : kd ≤ 5) (hpz : gP g = 0) : MI l D q tt yX2_play wsX2_play ({ frames := 5, cells := 0, slots := 0, locals := 122 } : Room) [.ref (a 0), .int (nI kd), .int n, .int ea, .int 0, .int x] (sw q a g) (fun (r : Int32) (u : Unit) => r = (aCo n kd x ((gB g), c0)).1) (fun (_ : Unit) => (sw q a (((aCo n kd x ((gB g), c0)).2.1), (nI (aCo n kd x ((gB g), c0)).2.2), (nI kd), n, ea, (gP g)))) 0 0 := by
  refine MI.of RX2 [(0, .ref (a 0)), (1, .int (nI kd)), (2, .int n), (3, .int ea), (4, .int 0), (5, .int x)] (by decide) rfl rfl (Nat.le_of_ble_eq_true rfl) rfl ?_
  intro p e s m args below meth c A C hr hnm
  have w_0 : ∀ w ∈ u_ws RX2 TX2 6, w ∈ wsX2_play := by decide +kernel
  have w_1 : Cond.fieldLink RX2 19 (TX2 2).1 (TX2 2).2.1 (TX2 2).2.2.1 ∈ wsX2_play := by decide +kernel
  have w_2 : Cond.fieldLink RX2 22 (TX2 3).1 (TX2 3).2.1 (TX2 3).2.2.1 ∈ wsX2_play := by decide +kernel
  have w_3 : Cond.fieldLink RX2 25 (TX2 4).1 (TX2 4).2.1 (TX2 4).2.2.1 ∈ wsX2_play := by decide +kernel
  have w_4 : Cond.fieldLink RX2 28 (TX2 5).1 (TX2 5).2.1 (TX2 5).2.2.1 ∈ wsX2_play := by decide +kernel
  refine g_aloadn C dX2_play_0 0 rfl rfl ?_
  refine g_iloadn C dX2_play_1 1 rfl rfl ?_
  refine g_put C fx2 w_0 0 2 rfl (by decide) w_1 rfl rfl rfl (Nat.le_of_ble_eq_true rfl) dX2_play_2 (sw q a ((gB g), (gN g), (nI kd), (gU g), (gE g), (gP g))) rfl ?_
  refine g_aloadn C dX2_play_5 0 rfl rfl ?_
  refine g_iloadn C dX2_play_6 2 rfl rfl ?_
  refine g_put C fx2 w_0 0 3 rfl (by decide) w_2 rfl rfl rfl (Nat.le_of_ble_eq_true rfl) dX2_play_7 (sw q a ((gB g), (gN g), (nI kd), n, (gE g), (gP g))) rfl ?_
  refine g_aloadn C dX2_play_10 0 rfl rfl ?_
  refine g_iloadn C dX2_play_11 3 rfl rfl ?_
  refine g_put C fx2 w_0 0 4 rfl (by decide) w_3 rfl rfl rfl (Nat.le_of_ble_eq_true rfl) dX2_play_12 (sw q a ((gB g), (gN g), (nI kd), n, ea, (gP g))) rfl ?_
  refine g_aloadn C dX2_play_15 0 rfl rfl ?_
  refine g_iloadn C dX2_play_16 1 rfl rfl ?_
  refine g_iload C dX2_play_17 4 rfl ?_
  refine g_iload C dX2_play_19 5 rfl ?_
  refine g_iconst C 1 dX2_play_21 (by decide) ?_
  refine g_callAi C (rd_V C (k_runCo l D q tt a ((gB g), (gN g), (nI kd), n, ea, (gP g)) c0 kd x 1 hc hc30 rfl hk5 hpz (by omega)) gX2_play_X2_run rfl rfl rfl 4 ok_X2_run rfl 0 rfl rfl (rest := []) rfl rfl (Nat.le_of_ble_eq_true rfl) dX2_play_22 ⟨(Nat.le_of_ble_eq_true rfl), (Nat.le_of_ble_eq_true rfl)⟩ ⟨(Nat.le_of_ble_eq_true rfl), (Nat.le_of_ble_eq_true rfl)⟩) (fun r_22 _ h_22 => ?_)
  obtain rfl := h_22
  refine g_wsc (sw q a (((aCo n kd x ((gB g), c0)).2.1), (nI (aCo n kd x ((gB g), c0)).2.2), (nI kd), n, ea, (gP g))) rfl ?_
  refine g_topci ((aCo n kd x ((gB g), c0)).1) rfl ?_
  refine g_istore C [(6, .int ((aCo n kd x ((gB g), c0)).1)), (0, .ref (a 0)), (1, .int (nI kd)), (2, .int n), (3, .int ea), (4, .int 0), (5, .int x)] dX2_play_25 (by decide) rfl ?_
  refine g_aloadn C dX2_play_27 1 rfl rfl ?_
  refine g_get C fx2 w_0 0 5 (v := .int (gP g)) rfl (by decide) w_4 rfl dX2_play_28 ?_
  refine g_topci 0 (hpz) ?_
  refine g_if_eqT C 39 dX2_play_31 rfl (by decide) ?_
  refine g_iload C dX2_play_39 0 rfl ?_
  exact g_iret C () hr dX2_play_41 (Nat.le_of_ble_eq_true rfl) (Nat.le_of_ble_eq_true rfl) rfl (rfl)

set_option maxRecDepth 100000 in
set_option maxHeartbeats 4000000 in
theorem k_play1 (l : Launch) (D : va_G) (q : Nat → ClassId) (tt : Nat → Nat) (a : Nat → Nat) (g : GC) (c0 : Nat) (kd : Nat) (n : Int32) (ea : Int32) (x : Int32) (hc : gN g = nI c0) (hc30 : c0 ≤ 30) (hk5 : kd ≤ 5) (hpz : gP g = 0) : MI l D q tt yX2_play wsX2_play ({ frames := 7, cells := 0, slots := 0, locals := 174 } : Room) [.ref (a 0), .int (nI kd), .int n, .int ea, .int 1, .int x] (sw q a g) (fun (r : Int32) (u : Unit) => r = (aLa n ea kd x ((gB g), c0)).1) (fun (_ : Unit) => (sw q a (((aLa n ea kd x ((gB g), c0)).2.1), (nI (aLa n ea kd x ((gB g), c0)).2.2), (nI kd), n, ea, (gP g)))) 0 0 := by
  refine MI.of RX2 [(0, .ref (a 0)), (1, .int (nI kd)), (2, .int n), (3, .int ea), (4, .int 1), (5, .int x)] (by decide) rfl rfl (Nat.le_of_ble_eq_true rfl) rfl ?_
  intro p e s m args below meth c A C hr hnm
  have w_0 : ∀ w ∈ u_ws RX2 TX2 6, w ∈ wsX2_play := by decide +kernel
  have w_1 : Cond.fieldLink RX2 19 (TX2 2).1 (TX2 2).2.1 (TX2 2).2.2.1 ∈ wsX2_play := by decide +kernel
  have w_2 : Cond.fieldLink RX2 22 (TX2 3).1 (TX2 3).2.1 (TX2 3).2.2.1 ∈ wsX2_play := by decide +kernel
  have w_3 : Cond.fieldLink RX2 25 (TX2 4).1 (TX2 4).2.1 (TX2 4).2.2.1 ∈ wsX2_play := by decide +kernel
  have w_4 : Cond.fieldLink RX2 28 (TX2 5).1 (TX2 5).2.1 (TX2 5).2.2.1 ∈ wsX2_play := by decide +kernel
  refine g_aloadn C dX2_play_0 0 rfl rfl ?_
  refine g_iloadn C dX2_play_1 1 rfl rfl ?_
  refine g_put C fx2 w_0 0 2 rfl (by decide) w_1 rfl rfl rfl (Nat.le_of_ble_eq_true rfl) dX2_play_2 (sw q a ((gB g), (gN g), (nI kd), (gU g), (gE g), (gP g))) rfl ?_
  refine g_aloadn C dX2_play_5 0 rfl rfl ?_
  refine g_iloadn C dX2_play_6 2 rfl rfl ?_
  refine g_put C fx2 w_0 0 3 rfl (by decide) w_2 rfl rfl rfl (Nat.le_of_ble_eq_true rfl) dX2_play_7 (sw q a ((gB g), (gN g), (nI kd), n, (gE g), (gP g))) rfl ?_
  refine g_aloadn C dX2_play_10 0 rfl rfl ?_
  refine g_iloadn C dX2_play_11 3 rfl rfl ?_
  refine g_put C fx2 w_0 0 4 rfl (by decide) w_3 rfl rfl rfl (Nat.le_of_ble_eq_true rfl) dX2_play_12 (sw q a ((gB g), (gN g), (nI kd), n, ea, (gP g))) rfl ?_
  refine g_aloadn C dX2_play_15 0 rfl rfl ?_
  refine g_iloadn C dX2_play_16 1 rfl rfl ?_
  refine g_iload C dX2_play_17 4 rfl ?_
  refine g_iload C dX2_play_19 5 rfl ?_
  refine g_iconst C 1 dX2_play_21 (by decide) ?_
  refine g_callAi C (rd_V C (k_runLa l D q tt a ((gB g), (gN g), (nI kd), n, ea, (gP g)) c0 kd x 1 hc hc30 rfl hk5 hpz (by omega)) gX2_play_X2_run rfl rfl rfl 4 ok_X2_run rfl 0 rfl rfl (rest := []) rfl rfl (Nat.le_of_ble_eq_true rfl) dX2_play_22 ⟨(Nat.le_of_ble_eq_true rfl), (Nat.le_of_ble_eq_true rfl)⟩ ⟨(Nat.le_of_ble_eq_true rfl), (Nat.le_of_ble_eq_true rfl)⟩) (fun r_22 _ h_22 => ?_)
  obtain rfl := h_22
  refine g_wsc (sw q a (((aLa n ea kd x ((gB g), c0)).2.1), (nI (aLa n ea kd x ((gB g), c0)).2.2), (nI kd), n, ea, (gP g))) rfl ?_
  refine g_topci ((aLa n ea kd x ((gB g), c0)).1) rfl ?_
  refine g_istore C [(6, .int ((aLa n ea kd x ((gB g), c0)).1)), (0, .ref (a 0)), (1, .int (nI kd)), (2, .int n), (3, .int ea), (4, .int 1), (5, .int x)] dX2_play_25 (by decide) rfl ?_
  refine g_aloadn C dX2_play_27 1 rfl rfl ?_
  refine g_get C fx2 w_0 0 5 (v := .int (gP g)) rfl (by decide) w_4 rfl dX2_play_28 ?_
  refine g_topci 0 (hpz) ?_
  refine g_if_eqT C 39 dX2_play_31 rfl (by decide) ?_
  refine g_iload C dX2_play_39 0 rfl ?_
  exact g_iret C () hr dX2_play_41 (Nat.le_of_ble_eq_true rfl) (Nat.le_of_ble_eq_true rfl) rfl (rfl)

set_option maxRecDepth 100000 in
set_option maxHeartbeats 4000000 in
theorem k_play2 (l : Launch) (D : va_G) (q : Nat → ClassId) (tt : Nat → Nat) (a : Nat → Nat) (g : GC) (c0 : Nat) (kd : Nat) (n : Int32) (ea : Int32) (x : Int32) (hc : gN g = nI c0) (hc30 : c0 ≤ 30) (hk5 : kd ≤ 5) (hpz : gP g = 0) : MI l D q tt yX2_play wsX2_play ({ frames := 6, cells := 0, slots := 0, locals := 148 } : Room) [.ref (a 0), .int (nI kd), .int n, .int ea, .int 2, .int x] (sw q a g) (fun (r : Int32) (u : Unit) => r = (if (aPa n ea kd x ((gB g), c0)).2.2 = 0 then (aPa n ea kd x ((gB g), c0)).1 else (-15))) (fun (_ : Unit) => (sw q a (((aPa n ea kd x ((gB g), c0)).2.1.1), (nI (aPa n ea kd x ((gB g), c0)).2.1.2), (nI kd), n, ea, ((aPa n ea kd x ((gB g), c0)).2.2)))) 0 0 := by
  refine MI.of RX2 [(0, .ref (a 0)), (1, .int (nI kd)), (2, .int n), (3, .int ea), (4, .int 2), (5, .int x)] (by decide) rfl rfl (Nat.le_of_ble_eq_true rfl) rfl ?_
  intro p e s m args below meth c A C hr hnm
  have w_0 : ∀ w ∈ u_ws RX2 TX2 6, w ∈ wsX2_play := by decide +kernel
  have w_1 : Cond.fieldLink RX2 19 (TX2 2).1 (TX2 2).2.1 (TX2 2).2.2.1 ∈ wsX2_play := by decide +kernel
  have w_2 : Cond.fieldLink RX2 22 (TX2 3).1 (TX2 3).2.1 (TX2 3).2.2.1 ∈ wsX2_play := by decide +kernel
  have w_3 : Cond.fieldLink RX2 25 (TX2 4).1 (TX2 4).2.1 (TX2 4).2.2.1 ∈ wsX2_play := by decide +kernel
  have w_4 : Cond.fieldLink RX2 28 (TX2 5).1 (TX2 5).2.1 (TX2 5).2.2.1 ∈ wsX2_play := by decide +kernel
  refine g_aloadn C dX2_play_0 0 rfl rfl ?_
  refine g_iloadn C dX2_play_1 1 rfl rfl ?_
  refine g_put C fx2 w_0 0 2 rfl (by decide) w_1 rfl rfl rfl (Nat.le_of_ble_eq_true rfl) dX2_play_2 (sw q a ((gB g), (gN g), (nI kd), (gU g), (gE g), (gP g))) rfl ?_
  refine g_aloadn C dX2_play_5 0 rfl rfl ?_
  refine g_iloadn C dX2_play_6 2 rfl rfl ?_
  refine g_put C fx2 w_0 0 3 rfl (by decide) w_2 rfl rfl rfl (Nat.le_of_ble_eq_true rfl) dX2_play_7 (sw q a ((gB g), (gN g), (nI kd), n, (gE g), (gP g))) rfl ?_
  refine g_aloadn C dX2_play_10 0 rfl rfl ?_
  refine g_iloadn C dX2_play_11 3 rfl rfl ?_
  refine g_put C fx2 w_0 0 4 rfl (by decide) w_3 rfl rfl rfl (Nat.le_of_ble_eq_true rfl) dX2_play_12 (sw q a ((gB g), (gN g), (nI kd), n, ea, (gP g))) rfl ?_
  refine g_aloadn C dX2_play_15 0 rfl rfl ?_
  refine g_iloadn C dX2_play_16 1 rfl rfl ?_
  refine g_iload C dX2_play_17 4 rfl ?_
  refine g_iload C dX2_play_19 5 rfl ?_
  refine g_iconst C 1 dX2_play_21 (by decide) ?_
  refine g_callAi C (rd_V C (k_runPa l D q tt a ((gB g), (gN g), (nI kd), n, ea, (gP g)) c0 kd x 1 hc hc30 rfl hk5 hpz (by omega)) gX2_play_X2_run rfl rfl rfl 4 ok_X2_run rfl 0 rfl rfl (rest := []) rfl rfl (Nat.le_of_ble_eq_true rfl) dX2_play_22 ⟨(Nat.le_of_ble_eq_true rfl), (Nat.le_of_ble_eq_true rfl)⟩ ⟨(Nat.le_of_ble_eq_true rfl), (Nat.le_of_ble_eq_true rfl)⟩) (fun r_22 _ h_22 => ?_)
  obtain rfl := h_22
  refine g_wsc (sw q a (((aPa n ea kd x ((gB g), c0)).2.1.1), (nI (aPa n ea kd x ((gB g), c0)).2.1.2), (nI kd), n, ea, ((aPa n ea kd x ((gB g), c0)).2.2))) rfl ?_
  refine g_topci ((aPa n ea kd x ((gB g), c0)).1) rfl ?_
  refine g_istore C [(6, .int ((aPa n ea kd x ((gB g), c0)).1)), (0, .ref (a 0)), (1, .int (nI kd)), (2, .int n), (3, .int ea), (4, .int 2), (5, .int x)] dX2_play_25 (by decide) rfl ?_
  refine g_aloadn C dX2_play_27 1 rfl rfl ?_
  refine g_get C fx2 w_0 0 5 (v := .int (aPa n ea kd x ((gB g), c0)).2.2) rfl (by decide) w_4 rfl dX2_play_28 ?_
  refine g_if_eq C 39 dX2_play_31 rfl (fun c_31 => ?_) (fun c_31 => ?_)
  · refine g_iload C dX2_play_39 0 rfl ?_
    exact g_iret C () hr dX2_play_41 (Nat.le_of_ble_eq_true rfl) (Nat.le_of_ble_eq_true rfl) rfl (by first | rw [if_pos c_31] | rw [if_neg c_31])
  · refine g_bipush C (-15) dX2_play_34 (by decide) ?_
    refine g_goto C 41 dX2_play_36 rfl ?_
    exact g_iret C () hr dX2_play_41 (Nat.le_of_ble_eq_true rfl) (Nat.le_of_ble_eq_true rfl) rfl (by first | rw [if_pos c_31] | rw [if_neg c_31])

set_option maxRecDepth 100000 in
set_option maxHeartbeats 4000000 in
theorem k_play3 (l : Launch) (D : va_G) (q : Nat → ClassId) (tt : Nat → Nat) (a : Nat → Nat) (g : GC) (c0 : Nat) (kd : Nat) (n : Int32) (ea : Int32) (x : Int32) (hc : gN g = nI c0) (hc30 : c0 ≤ 30) (hk5 : kd ≤ 5) (hpz : gP g = 0) : MI l D q tt yX2_play wsX2_play ({ frames := 9, cells := 0, slots := 0, locals := 226 } : Room) [.ref (a 0), .int (nI kd), .int n, .int ea, .int 3, .int x] (sw q a g) (fun (r : Int32) (u : Unit) => r = (if (aRi n ea kd x ((gB g), c0)).2.2 = 0 then (aRi n ea kd x ((gB g), c0)).1 else (-15))) (fun (_ : Unit) => (sw q a (((aRi n ea kd x ((gB g), c0)).2.1.1), (nI (aRi n ea kd x ((gB g), c0)).2.1.2), (nI kd), n, ea, ((aRi n ea kd x ((gB g), c0)).2.2)))) 0 0 := by
  refine MI.of RX2 [(0, .ref (a 0)), (1, .int (nI kd)), (2, .int n), (3, .int ea), (4, .int 3), (5, .int x)] (by decide) rfl rfl (Nat.le_of_ble_eq_true rfl) rfl ?_
  intro p e s m args below meth c A C hr hnm
  have w_0 : ∀ w ∈ u_ws RX2 TX2 6, w ∈ wsX2_play := by decide +kernel
  have w_1 : Cond.fieldLink RX2 19 (TX2 2).1 (TX2 2).2.1 (TX2 2).2.2.1 ∈ wsX2_play := by decide +kernel
  have w_2 : Cond.fieldLink RX2 22 (TX2 3).1 (TX2 3).2.1 (TX2 3).2.2.1 ∈ wsX2_play := by decide +kernel
  have w_3 : Cond.fieldLink RX2 25 (TX2 4).1 (TX2 4).2.1 (TX2 4).2.2.1 ∈ wsX2_play := by decide +kernel
  have w_4 : Cond.fieldLink RX2 28 (TX2 5).1 (TX2 5).2.1 (TX2 5).2.2.1 ∈ wsX2_play := by decide +kernel
  refine g_aloadn C dX2_play_0 0 rfl rfl ?_
  refine g_iloadn C dX2_play_1 1 rfl rfl ?_
  refine g_put C fx2 w_0 0 2 rfl (by decide) w_1 rfl rfl rfl (Nat.le_of_ble_eq_true rfl) dX2_play_2 (sw q a ((gB g), (gN g), (nI kd), (gU g), (gE g), (gP g))) rfl ?_
  refine g_aloadn C dX2_play_5 0 rfl rfl ?_
  refine g_iloadn C dX2_play_6 2 rfl rfl ?_
  refine g_put C fx2 w_0 0 3 rfl (by decide) w_2 rfl rfl rfl (Nat.le_of_ble_eq_true rfl) dX2_play_7 (sw q a ((gB g), (gN g), (nI kd), n, (gE g), (gP g))) rfl ?_
  refine g_aloadn C dX2_play_10 0 rfl rfl ?_
  refine g_iloadn C dX2_play_11 3 rfl rfl ?_
  refine g_put C fx2 w_0 0 4 rfl (by decide) w_3 rfl rfl rfl (Nat.le_of_ble_eq_true rfl) dX2_play_12 (sw q a ((gB g), (gN g), (nI kd), n, ea, (gP g))) rfl ?_
  refine g_aloadn C dX2_play_15 0 rfl rfl ?_
  refine g_iloadn C dX2_play_16 1 rfl rfl ?_
  refine g_iload C dX2_play_17 4 rfl ?_
  refine g_iload C dX2_play_19 5 rfl ?_
  refine g_iconst C 1 dX2_play_21 (by decide) ?_
  refine g_callAi C (rd_V C (k_runRi l D q tt a ((gB g), (gN g), (nI kd), n, ea, (gP g)) c0 kd x 1 hc hc30 rfl hk5 hpz (by omega)) gX2_play_X2_run rfl rfl rfl 4 ok_X2_run rfl 0 rfl rfl (rest := []) rfl rfl (Nat.le_of_ble_eq_true rfl) dX2_play_22 ⟨(Nat.le_of_ble_eq_true rfl), (Nat.le_of_ble_eq_true rfl)⟩ ⟨(Nat.le_of_ble_eq_true rfl), (Nat.le_of_ble_eq_true rfl)⟩) (fun r_22 _ h_22 => ?_)
  obtain rfl := h_22
  refine g_wsc (sw q a (((aRi n ea kd x ((gB g), c0)).2.1.1), (nI (aRi n ea kd x ((gB g), c0)).2.1.2), (nI kd), n, ea, ((aRi n ea kd x ((gB g), c0)).2.2))) rfl ?_
  refine g_topci ((aRi n ea kd x ((gB g), c0)).1) rfl ?_
  refine g_istore C [(6, .int ((aRi n ea kd x ((gB g), c0)).1)), (0, .ref (a 0)), (1, .int (nI kd)), (2, .int n), (3, .int ea), (4, .int 3), (5, .int x)] dX2_play_25 (by decide) rfl ?_
  refine g_aloadn C dX2_play_27 1 rfl rfl ?_
  refine g_get C fx2 w_0 0 5 (v := .int (aRi n ea kd x ((gB g), c0)).2.2) rfl (by decide) w_4 rfl dX2_play_28 ?_
  refine g_if_eq C 39 dX2_play_31 rfl (fun c_31 => ?_) (fun c_31 => ?_)
  · refine g_iload C dX2_play_39 0 rfl ?_
    exact g_iret C () hr dX2_play_41 (Nat.le_of_ble_eq_true rfl) (Nat.le_of_ble_eq_true rfl) rfl (by first | rw [if_pos c_31] | rw [if_neg c_31])
  · refine g_bipush C (-15) dX2_play_34 (by decide) ?_
    refine g_goto C 41 dX2_play_36 rfl ?_
    exact g_iret C () hr dX2_play_41 (Nat.le_of_ble_eq_true rfl) (Nat.le_of_ble_eq_true rfl) rfl (by first | rw [if_pos c_31] | rw [if_neg c_31])

