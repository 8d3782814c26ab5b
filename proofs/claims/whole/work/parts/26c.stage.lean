set_option maxRecDepth 100000 in
set_option maxHeartbeats 4000000 in
theorem k_run41D (l : Launch) (D : va_G) (q : Nat → ClassId) (tt : Nat → Nat) (a : Nat → Nat) (g : GC) (c0 : Nat) (kd : Nat) (as_ : Nat) (ac : Nat) (x : Int32) (d : Nat) (hc : gN g = nI c0) (hc30 : c0 ≤ 30) (hkd : gK g = nI kd) (hk5 : kd ≤ 5) (hpz : gP g = 0) (hAs : as_ ≤ 5) (hAc : ac ≤ 3) (hb : tBO.getD (as_ * 4 + ac) 0 = 41) (hd : d + 5 ≤ 13) : MI l D q tt yX2_run wsX2_run ({ frames := 6, cells := 0, slots := 0, locals := 148 } : Room) [.ref (a 0), .int (nI as_), .int (nI ac), .int x, .int (nI d)] (sw q a g) (fun (r : Int32) (u : Unit) => r = (a41 (gU g) (gE g) kd x ((gB g), c0)).1) (fun (_ : Unit) => (sw q a (((a41 (gU g) (gE g) kd x ((gB g), c0)).2.1), (nI (a41 (gU g) (gE g) kd x ((gB g), c0)).2.2), (gK g), (gU g), (gE g), (gP g)))) 0 0 := by
  refine MI.of RX2 [(0, .ref (a 0)), (1, .int (nI as_)), (2, .int (nI ac)), (3, .int x), (4, .int (nI d))] (by decide) rfl rfl (Nat.le_of_ble_eq_true rfl) rfl ?_
  intro p e s m args below meth c A C hr hnm
  have w_0 : ∀ w ∈ u_ws RX2 TX2 6, w ∈ wsX2_run := by decide +kernel
  have w_1 : Cond.fieldLink RX2 28 (TX2 5).1 (TX2 5).2.1 (TX2 5).2.2.1 ∈ wsX2_run := by decide +kernel
  have w_2 : Cond.fieldLink RX2 19 (TX2 2).1 (TX2 2).2.1 (TX2 2).2.2.1 ∈ wsX2_run := by decide +kernel
  have w_3 : Cond.fieldLink RX2 25 (TX2 4).1 (TX2 4).2.1 (TX2 4).2.2.1 ∈ wsX2_run := by decide +kernel
  refine g_aloadn C dX2_run_0 0 rfl rfl ?_
  refine g_get C fx2 w_0 0 5 (v := .int (gP g)) rfl (by decide) w_1 rfl dX2_run_1 ?_
  refine g_topci 0 (hpz) ?_
  refine g_if_neF C 14 dX2_run_4 rfl (by decide) ?_
  refine g_iload C dX2_run_7 4 rfl ?_
  refine g_bipush C 12 dX2_run_9 (by decide) ?_
  refine g_icmpN_le C 16 (d) (12) dX2_run_11 rfl (by omega) (by omega) (fun c_11 => ?_) (fun c_11 => ?_)
  · refine g_iloadn C dX2_run_16 1 rfl rfl ?_
    refine g_iloadn C dX2_run_17 2 rfl rfl ?_
    refine g_call0i C (rd_S C (k_X2_bodyOf l D q tt as_ ac (by first | assumption | omega) (by first | assumption | omega)) gX2_run_X2_bodyOf rfl rfl rfl 2 ok_X2_bodyOf (rest := []) rfl rfl (Nat.le_of_ble_eq_true rfl) dX2_run_18 ⟨(Nat.le_of_ble_eq_true rfl), (Nat.le_of_ble_eq_true rfl)⟩ ⟨(Nat.le_of_ble_eq_true rfl), (Nat.le_of_ble_eq_true rfl)⟩) (fun _ => rfl) (fun r_18 _ h_18 => ?_)
    obtain rfl := h_18
    refine g_topci 41 (hb) ?_
    refine g_istore C [(5, .int 41), (0, .ref (a 0)), (1, .int (nI as_)), (2, .int (nI ac)), (3, .int x), (4, .int (nI d))] dX2_run_21 (by decide) rfl ?_
    refine g_aloadn C dX2_run_23 1 rfl rfl ?_
    refine g_iload C dX2_run_24 0 rfl ?_
    refine g_callAv C (rd_V C (k_X2_note l D q tt a g c0 41 (by first | assumption | omega) (by first | assumption | omega)) gX2_run_X2_note rfl rfl rfl 1 ok_X2_note rfl 0 rfl rfl (rest := []) rfl rfl (Nat.le_of_ble_eq_true rfl) dX2_run_26 ⟨(Nat.le_of_ble_eq_true rfl), (Nat.le_of_ble_eq_true rfl)⟩ ⟨(Nat.le_of_ble_eq_true rfl), (Nat.le_of_ble_eq_true rfl)⟩) (fun _ h_26 => ?_)
    refine g_iload C dX2_run_29 5 rfl ?_
    refine g_iconst C 1 dX2_run_31 (by decide) ?_
    refine g_iadd C dX2_run_32 ?_
    refine g_topci (nI (d + 1)) ((ix_add rfl rfl)) ?_
    refine g_istore C [(6, .int (nI (d + 1))), (5, .int 41), (0, .ref (a 0)), (1, .int (nI as_)), (2, .int (nI ac)), (3, .int x), (4, .int (nI d))] dX2_run_33 (by decide) rfl ?_
    refine g_iload C dX2_run_35 1 rfl ?_
    refine g_tin C 375 dX2_run_37 (by decide) (by decide) rfl rfl ?_
    refine g_aloadn C dX2_run_375 2 rfl rfl ?_
    refine g_iconst C 2 dX2_run_376 (by decide) ?_
    refine g_iconst C 1 dX2_run_377 (by decide) ?_
    refine g_iloadn C dX2_run_378 5 rfl rfl ?_
    refine g_iload C dX2_run_379 0 rfl ?_
    refine g_callAi C (rd_V C (k_run11 l D q tt a ((noB (gB g) c0 41), (nI (noC c0)), (gK g), (gU g), (gE g), (gP g)) (noC c0) kd 2 1 x (d + 1) rfl (noC_le hc30) hkd hk5 hpz (by omega) (by omega) rfl (by omega)) gX2_run_X2_run rfl rfl rfl 4 ok_X2_run rfl 0 rfl rfl (rest := []) rfl rfl (Nat.le_of_ble_eq_true rfl) dX2_run_381 ⟨(Nat.le_of_ble_eq_true rfl), (Nat.le_of_ble_eq_true rfl)⟩ ⟨(Nat.le_of_ble_eq_true rfl), (Nat.le_of_ble_eq_true rfl)⟩) (fun r_381 _ h_381 => ?_)
    obtain rfl := h_381
    refine g_wsc (sw q a (((a11 (gU g) (gE g) kd x ((noB (gB g) c0 41), (noC c0))).2.1), (nI (a11 (gU g) (gE g) kd x ((noB (gB g) c0 41), (noC c0))).2.2), (gK g), (gU g), (gE g), (gP g))) rfl ?_
    refine g_topci ((a11 (gU g) (gE g) kd x ((noB (gB g) c0 41), (noC c0))).1) rfl ?_
    refine g_aloadn C dX2_run_384 2 rfl rfl ?_
    refine g_aloadn C dX2_run_385 2 rfl rfl ?_
    refine g_get C fx2 w_0 0 2 (v := .int (gK g)) rfl (by decide) w_2 rfl dX2_run_386 ?_
    refine g_topci (nI kd) (hkd) ?_
    refine g_iconst C 0 dX2_run_389 (by decide) ?_
    refine g_aloadn C dX2_run_390 2 rfl rfl ?_
    refine g_get C fx2 w_0 0 4 (v := .int (gE g)) rfl (by decide) w_3 rfl dX2_run_391 ?_
    refine g_iload C dX2_run_394 0 rfl ?_
    refine g_callAi C (rd_V C (k_runCo l D q tt a (((a11 (gU g) (gE g) kd x ((noB (gB g) c0 41), (noC c0))).2.1), (nI (a11 (gU g) (gE g) kd x ((noB (gB g) c0 41), (noC c0))).2.2), (gK g), (gU g), (gE g), (gP g)) ((a11 (gU g) (gE g) kd x (noS ((gB g), c0) 41)).2.2) kd (gE g) (d + 1) rfl (a11_le (n := (gU g)) (a := (gE g)) (x := x) (kd := kd) (z := (noS ((gB g), c0) 41)) (noC_le hc30)) hkd hk5 hpz (by omega)) gX2_run_X2_run rfl rfl rfl 4 ok_X2_run rfl 0 rfl rfl (rest := [.int ((a11 (gU g) (gE g) kd x ((noB (gB g) c0 41), (noC c0))).1)]) rfl rfl (Nat.le_of_ble_eq_true rfl) dX2_run_396 ⟨(Nat.le_of_ble_eq_true rfl), (Nat.le_of_ble_eq_true rfl)⟩ ⟨(Nat.le_of_ble_eq_true rfl), (Nat.le_of_ble_eq_true rfl)⟩) (fun r_396 _ h_396 => ?_)
    obtain rfl := h_396
    refine g_wsc (sw q a (((aCo (gU g) kd (gE g) ((a11 (gU g) (gE g) kd x ((noB (gB g) c0 41), (noC c0))).2.1, ((a11 (gU g) (gE g) kd x (noS ((gB g), c0) 41)).2.2))).2.1), (nI (aCo (gU g) kd (gE g) ((a11 (gU g) (gE g) kd x ((noB (gB g) c0 41), (noC c0))).2.1, ((a11 (gU g) (gE g) kd x (noS ((gB g), c0) 41)).2.2))).2.2), (gK g), (gU g), (gE g), (gP g))) rfl ?_
    refine g_topci ((aCo (gU g) kd (gE g) ((a11 (gU g) (gE g) kd x ((noB (gB g) c0 41), (noC c0))).2.1, ((a11 (gU g) (gE g) kd x (noS ((gB g), c0) 41)).2.2))).1) rfl ?_
    refine g_iadd C dX2_run_399 ?_
    exact g_iret C () hr dX2_run_400 (Nat.le_of_ble_eq_true rfl) (Nat.le_of_ble_eq_true rfl) rfl (rfl)
  · exfalso
    omega

set_option maxRecDepth 100000 in
set_option maxHeartbeats 4000000 in
theorem k_runLa (l : Launch) (D : va_G) (q : Nat → ClassId) (tt : Nat → Nat) (a : Nat → Nat) (g : GC) (c0 : Nat) (kd : Nat) (x : Int32) (d : Nat) (hc : gN g = nI c0) (hc30 : c0 ≤ 30) (hkd : gK g = nI kd) (hk5 : kd ≤ 5) (hpz : gP g = 0) (hd : d + 5 ≤ 13) : MI l D q tt yX2_run wsX2_run ({ frames := 6, cells := 0, slots := 0, locals := 148 } : Room) [.ref (a 0), .int (nI kd), .int 1, .int x, .int (nI d)] (sw q a g) (fun (r : Int32) (u : Unit) => r = (aLa (gU g) (gE g) kd x ((gB g), c0)).1) (fun (_ : Unit) => (sw q a (((aLa (gU g) (gE g) kd x ((gB g), c0)).2.1), (nI (aLa (gU g) (gE g) kd x ((gB g), c0)).2.2), (gK g), (gU g), (gE g), (gP g)))) 0 0 := by
  have h6_ : kd = 0 ∨ kd = 1 ∨ kd = 2 ∨ kd = 3 ∨ kd = 4 ∨ kd = 5 := by omega
  rcases h6_ with rfl | rfl | rfl | rfl | rfl | rfl
  · exact k_run11D l D q tt a g c0 0 0 1 x d hc hc30 hkd hk5 hpz (by omega) (by omega) rfl (by omega)
  · exact k_run20D l D q tt a g c0 1 1 1 x d hc hc30 hkd hk5 hpz (by omega) (by omega) rfl (by omega)
  · exact k_run11D l D q tt a g c0 2 2 1 x d hc hc30 hkd hk5 hpz (by omega) (by omega) rfl (by omega)
  · exact k_run20D l D q tt a g c0 3 3 1 x d hc hc30 hkd hk5 hpz (by omega) (by omega) rfl (by omega)
  · exact k_run41D l D q tt a g c0 4 4 1 x d hc hc30 hkd hk5 hpz (by omega) (by omega) rfl (by omega)
  · exact k_run11D l D q tt a g c0 5 5 1 x d hc hc30 hkd hk5 hpz (by omega) (by omega) rfl (by omega)

set_option maxRecDepth 100000 in
set_option maxHeartbeats 4000000 in
theorem k_run13 (l : Launch) (D : va_G) (q : Nat → ClassId) (tt : Nat → Nat) (a : Nat → Nat) (g : GC) (c0 : Nat) (kd : Nat) (as_ : Nat) (ac : Nat) (x : Int32) (d : Nat) (hc : gN g = nI c0) (hc30 : c0 ≤ 30) (hkd : gK g = nI kd) (hk5 : kd ≤ 5) (hpz : gP g = 0) (hAs : as_ ≤ 5) (hAc : ac ≤ 3) (hb : tBO.getD (as_ * 4 + ac) 0 = 13) (hd : d + 6 ≤ 13) : MI l D q tt yX2_run wsX2_run ({ frames := 7, cells := 0, slots := 0, locals := 174 } : Room) [.ref (a 0), .int (nI as_), .int (nI ac), .int x, .int (nI d)] (sw q a g) (fun (r : Int32) (u : Unit) => r = (a13 (gU g) (gE g) kd x ((gB g), c0)).1) (fun (_ : Unit) => (sw q a (((a13 (gU g) (gE g) kd x ((gB g), c0)).2.1), (nI (a13 (gU g) (gE g) kd x ((gB g), c0)).2.2), (gK g), (gU g), (gE g), (gP g)))) 0 0 := by
  refine MI.of RX2 [(0, .ref (a 0)), (1, .int (nI as_)), (2, .int (nI ac)), (3, .int x), (4, .int (nI d))] (by decide) rfl rfl (Nat.le_of_ble_eq_true rfl) rfl ?_
  intro p e s m args below meth c A C hr hnm
  have w_0 : ∀ w ∈ u_ws RX2 TX2 6, w ∈ wsX2_run := by decide +kernel
  have w_1 : Cond.fieldLink RX2 28 (TX2 5).1 (TX2 5).2.1 (TX2 5).2.2.1 ∈ wsX2_run := by decide +kernel
  have w_2 : Cond.fieldLink RX2 19 (TX2 2).1 (TX2 2).2.1 (TX2 2).2.2.1 ∈ wsX2_run := by decide +kernel
  refine g_aloadn C dX2_run_0 0 rfl rfl ?_
  refine g_get C fx2 w_0 0 5 (v := .int (gP g)) rfl (by decide) w_1 rfl dX2_run_1 ?_
  refine g_topci 0 (hpz) ?_
  refine g_if_neF C 14 dX2_run_4 rfl (by decide) ?_
  refine g_iload C dX2_run_7 4 rfl ?_
  refine g_bipush C 12 dX2_run_9 (by decide) ?_
  refine g_icmpN_le C 16 (d) (12) dX2_run_11 rfl (by omega) (by omega) (fun c_11 => ?_) (fun c_11 => ?_)
  · refine g_iloadn C dX2_run_16 1 rfl rfl ?_
    refine g_iloadn C dX2_run_17 2 rfl rfl ?_
    refine g_call0i C (rd_S C (k_X2_bodyOf l D q tt as_ ac (by first | assumption | omega) (by first | assumption | omega)) gX2_run_X2_bodyOf rfl rfl rfl 2 ok_X2_bodyOf (rest := []) rfl rfl (Nat.le_of_ble_eq_true rfl) dX2_run_18 ⟨(Nat.le_of_ble_eq_true rfl), (Nat.le_of_ble_eq_true rfl)⟩ ⟨(Nat.le_of_ble_eq_true rfl), (Nat.le_of_ble_eq_true rfl)⟩) (fun _ => rfl) (fun r_18 _ h_18 => ?_)
    obtain rfl := h_18
    refine g_topci 13 (hb) ?_
    refine g_istore C [(5, .int 13), (0, .ref (a 0)), (1, .int (nI as_)), (2, .int (nI ac)), (3, .int x), (4, .int (nI d))] dX2_run_21 (by decide) rfl ?_
    refine g_aloadn C dX2_run_23 1 rfl rfl ?_
    refine g_iload C dX2_run_24 0 rfl ?_
    refine g_callAv C (rd_V C (k_X2_note l D q tt a g c0 13 (by first | assumption | omega) (by first | assumption | omega)) gX2_run_X2_note rfl rfl rfl 1 ok_X2_note rfl 0 rfl rfl (rest := []) rfl rfl (Nat.le_of_ble_eq_true rfl) dX2_run_26 ⟨(Nat.le_of_ble_eq_true rfl), (Nat.le_of_ble_eq_true rfl)⟩ ⟨(Nat.le_of_ble_eq_true rfl), (Nat.le_of_ble_eq_true rfl)⟩) (fun _ h_26 => ?_)
    refine g_iload C dX2_run_29 5 rfl ?_
    refine g_iconst C 1 dX2_run_31 (by decide) ?_
    refine g_iadd C dX2_run_32 ?_
    refine g_topci (nI (d + 1)) ((ix_add rfl rfl)) ?_
    refine g_istore C [(6, .int (nI (d + 1))), (5, .int 13), (0, .ref (a 0)), (1, .int (nI as_)), (2, .int (nI ac)), (3, .int x), (4, .int (nI d))] dX2_run_33 (by decide) rfl ?_
    refine g_iload C dX2_run_35 1 rfl ?_
    refine g_tin C 296 dX2_run_37 (by decide) (by decide) rfl rfl ?_
    refine g_aloadn C dX2_run_296 2 rfl rfl ?_
    refine g_aloadn C dX2_run_297 2 rfl rfl ?_
    refine g_get C fx2 w_0 0 2 (v := .int (gK g)) rfl (by decide) w_2 rfl dX2_run_298 ?_
    refine g_topci (nI kd) (hkd) ?_
    refine g_iconst C 1 dX2_run_301 (by decide) ?_
    refine g_iloadn C dX2_run_302 5 rfl rfl ?_
    refine g_iload C dX2_run_303 0 rfl ?_
    refine g_callAi C (rd_V C (k_runLa l D q tt a ((noB (gB g) c0 13), (nI (noC c0)), (gK g), (gU g), (gE g), (gP g)) (noC c0) kd x (d + 1) rfl (noC_le hc30) hkd hk5 hpz (by omega)) gX2_run_X2_run rfl rfl rfl 4 ok_X2_run rfl 0 rfl rfl (rest := []) rfl rfl (Nat.le_of_ble_eq_true rfl) dX2_run_305 ⟨(Nat.le_of_ble_eq_true rfl), (Nat.le_of_ble_eq_true rfl)⟩ ⟨(Nat.le_of_ble_eq_true rfl), (Nat.le_of_ble_eq_true rfl)⟩) (fun r_305 _ h_305 => ?_)
    obtain rfl := h_305
    refine g_wsc (sw q a (((aLa (gU g) (gE g) kd x ((noB (gB g) c0 13), (noC c0))).2.1), (nI (aLa (gU g) (gE g) kd x ((noB (gB g) c0 13), (noC c0))).2.2), (gK g), (gU g), (gE g), (gP g))) rfl ?_
    refine g_topci ((aLa (gU g) (gE g) kd x ((noB (gB g) c0 13), (noC c0))).1) rfl ?_
    refine g_bipush C 90 dX2_run_308 (by decide) ?_
    refine g_ixor C dX2_run_310 ?_
    exact g_iret C () hr dX2_run_311 (Nat.le_of_ble_eq_true rfl) (Nat.le_of_ble_eq_true rfl) rfl (rfl)
  · exfalso
    omega

theorem a12_z {n a x : Int32} {z : (Nat → Int32) × Nat} : (a12 n a x z).2.1 = noS z 12 := by unfold a12; split <;> rfl
theorem a12_Pn {n a x : Int32} {z : (Nat → Int32) × Nat} (h : ¬ n = a) : (a12 n a x z).2.2 = 0 := by unfold a12; rw [if_neg h]
theorem a61_Pn {n a x : Int32} {kd : Nat} {z : (Nat → Int32) × Nat} (h : ¬ n = a) : (a61 n a kd x z).2.2 = 0 := by unfold a61; rw [if_neg h]

set_option maxRecDepth 100000 in
set_option maxHeartbeats 4000000 in
theorem k_run12 (l : Launch) (D : va_G) (q : Nat → ClassId) (tt : Nat → Nat) (a : Nat → Nat) (g : GC) (c0 : Nat) (as_ : Nat) (ac : Nat) (x : Int32) (d : Nat) (hc : gN g = nI c0) (hc30 : c0 ≤ 30) (hpz : gP g = 0) (hAs : as_ ≤ 5) (hAc : ac ≤ 3) (hb : tBO.getD (as_ * 4 + ac) 0 = 12) (hd : d + 1 ≤ 13) : MI l D q tt yX2_run wsX2_run ({ frames := 2, cells := 0, slots := 0, locals := 44 } : Room) [.ref (a 0), .int (nI as_), .int (nI ac), .int x, .int (nI d)] (sw q a g) (fun (r : Int32) (u : Unit) => r = (a12 (gU g) (gE g) x ((gB g), c0)).1) (fun (_ : Unit) => (sw q a (((a12 (gU g) (gE g) x ((gB g), c0)).2.1.1), (nI (a12 (gU g) (gE g) x ((gB g), c0)).2.1.2), (gK g), (gU g), (gE g), ((a12 (gU g) (gE g) x ((gB g), c0)).2.2)))) 0 0 := by
  refine MI.of RX2 [(0, .ref (a 0)), (1, .int (nI as_)), (2, .int (nI ac)), (3, .int x), (4, .int (nI d))] (by decide) rfl rfl (Nat.le_of_ble_eq_true rfl) rfl ?_
  intro p e s m args below meth c A C hr hnm
  have w_0 : ∀ w ∈ u_ws RX2 TX2 6, w ∈ wsX2_run := by decide +kernel
  have w_1 : Cond.fieldLink RX2 28 (TX2 5).1 (TX2 5).2.1 (TX2 5).2.2.1 ∈ wsX2_run := by decide +kernel
  refine g_aloadn C dX2_run_0 0 rfl rfl ?_
  refine g_get C fx2 w_0 0 5 (v := .int (gP g)) rfl (by decide) w_1 rfl dX2_run_1 ?_
  refine g_topci 0 (hpz) ?_
  refine g_if_neF C 14 dX2_run_4 rfl (by decide) ?_
  refine g_iload C dX2_run_7 4 rfl ?_
  refine g_bipush C 12 dX2_run_9 (by decide) ?_
  refine g_icmpN_le C 16 (d) (12) dX2_run_11 rfl (by omega) (by omega) (fun c_11 => ?_) (fun c_11 => ?_)
  · refine g_iloadn C dX2_run_16 1 rfl rfl ?_
    refine g_iloadn C dX2_run_17 2 rfl rfl ?_
    refine g_call0i C (rd_S C (k_X2_bodyOf l D q tt as_ ac (by first | assumption | omega) (by first | assumption | omega)) gX2_run_X2_bodyOf rfl rfl rfl 2 ok_X2_bodyOf (rest := []) rfl rfl (Nat.le_of_ble_eq_true rfl) dX2_run_18 ⟨(Nat.le_of_ble_eq_true rfl), (Nat.le_of_ble_eq_true rfl)⟩ ⟨(Nat.le_of_ble_eq_true rfl), (Nat.le_of_ble_eq_true rfl)⟩) (fun _ => rfl) (fun r_18 _ h_18 => ?_)
    obtain rfl := h_18
    refine g_topci 12 (hb) ?_
    refine g_istore C [(5, .int 12), (0, .ref (a 0)), (1, .int (nI as_)), (2, .int (nI ac)), (3, .int x), (4, .int (nI d))] dX2_run_21 (by decide) rfl ?_
    refine g_aloadn C dX2_run_23 1 rfl rfl ?_
    refine g_iload C dX2_run_24 0 rfl ?_
    refine g_callAv C (rd_V C (k_X2_note l D q tt a g c0 12 (by first | assumption | omega) (by first | assumption | omega)) gX2_run_X2_note rfl rfl rfl 1 ok_X2_note rfl 0 rfl rfl (rest := []) rfl rfl (Nat.le_of_ble_eq_true rfl) dX2_run_26 ⟨(Nat.le_of_ble_eq_true rfl), (Nat.le_of_ble_eq_true rfl)⟩ ⟨(Nat.le_of_ble_eq_true rfl), (Nat.le_of_ble_eq_true rfl)⟩) (fun _ h_26 => ?_)
    refine g_iload C dX2_run_29 5 rfl ?_
    refine g_iconst C 1 dX2_run_31 (by decide) ?_
    refine g_iadd C dX2_run_32 ?_
    refine g_topci (nI (d + 1)) ((ix_add rfl rfl)) ?_
    refine g_istore C [(6, .int (nI (d + 1))), (5, .int 12), (0, .ref (a 0)), (1, .int (nI as_)), (2, .int (nI ac)), (3, .int x), (4, .int (nI d))] dX2_run_33 (by decide) rfl ?_
    refine g_iload C dX2_run_35 1 rfl ?_
    refine g_tin C 290 dX2_run_37 (by decide) (by decide) rfl rfl ?_
    refine g_aloadn C dX2_run_290 2 rfl rfl ?_
    refine g_iloadn C dX2_run_291 5 rfl rfl ?_
    refine g_callAi C (rd_V C (k_X2_part l D q tt a ((noB (gB g) c0 12), (nI (noC c0)), (gK g), (gU g), (gE g), (gP g)) x ((gB g), c0) hpz) gX2_run_X2_part rfl rfl rfl 1 ok_X2_part rfl 0 rfl rfl (rest := []) rfl rfl (Nat.le_of_ble_eq_true rfl) dX2_run_292 ⟨(Nat.le_of_ble_eq_true rfl), (Nat.le_of_ble_eq_true rfl)⟩ ⟨(Nat.le_of_ble_eq_true rfl), (Nat.le_of_ble_eq_true rfl)⟩) (fun r_292 _ h_292 => ?_)
    obtain rfl := h_292
    refine g_wsc (sw q a ((noB (gB g) c0 12), (nI (noC c0)), (gK g), (gU g), (gE g), ((a12 (gU g) (gE g) x ((gB g), c0)).2.2))) rfl ?_
    refine g_topci ((a12 (gU g) (gE g) x ((gB g), c0)).1) rfl ?_
    refine g_wsc (sw q a (((a12 (gU g) (gE g) x ((gB g), c0)).2.1.1), (nI (noC c0)), (gK g), (gU g), (gE g), ((a12 (gU g) (gE g) x ((gB g), c0)).2.2))) (by first | (rw [a12_z]; done) | (rw [a12_z]; rfl)) ?_
    refine g_wsc (sw q a (((a12 (gU g) (gE g) x ((gB g), c0)).2.1.1), (nI (a12 (gU g) (gE g) x ((gB g), c0)).2.1.2), (gK g), (gU g), (gE g), ((a12 (gU g) (gE g) x ((gB g), c0)).2.2))) (by first | (rw [a12_z]; done) | (rw [a12_z]; rfl)) ?_
    exact g_iret C () hr dX2_run_295 (Nat.le_of_ble_eq_true rfl) (Nat.le_of_ble_eq_true rfl) rfl (rfl)
  · exfalso
    omega

set_option maxRecDepth 100000 in
set_option maxHeartbeats 4000000 in
theorem k_run50 (l : Launch) (D : va_G) (q : Nat → ClassId) (tt : Nat → Nat) (a : Nat → Nat) (g : GC) (c0 : Nat) (as_ : Nat) (ac : Nat) (x : Int32) (d : Nat) (hc : gN g = nI c0) (hc30 : c0 ≤ 30) (hpz : gP g = 0) (hAs : as_ ≤ 5) (hAc : ac ≤ 3) (hb : tBO.getD (as_ * 4 + ac) 0 = 50) (hd : d + 2 ≤ 13) : MI l D q tt yX2_run wsX2_run ({ frames := 3, cells := 0, slots := 0, locals := 70 } : Room) [.ref (a 0), .int (nI as_), .int (nI ac), .int x, .int (nI d)] (sw q a g) (fun (r : Int32) (u : Unit) => r = (a50 (gU g) (gE g) x ((gB g), c0)).1) (fun (_ : Unit) => (sw q a (((a50 (gU g) (gE g) x ((gB g), c0)).2.1.1), (nI (a50 (gU g) (gE g) x ((gB g), c0)).2.1.2), (gK g), (gU g), (gE g), ((a50 (gU g) (gE g) x ((gB g), c0)).2.2)))) 0 0 := by
  refine MI.of RX2 [(0, .ref (a 0)), (1, .int (nI as_)), (2, .int (nI ac)), (3, .int x), (4, .int (nI d))] (by decide) rfl rfl (Nat.le_of_ble_eq_true rfl) rfl ?_
  intro p e s m args below meth c A C hr hnm
  have w_0 : ∀ w ∈ u_ws RX2 TX2 6, w ∈ wsX2_run := by decide +kernel
  have w_1 : Cond.fieldLink RX2 28 (TX2 5).1 (TX2 5).2.1 (TX2 5).2.2.1 ∈ wsX2_run := by decide +kernel
  have w_2 : Cond.fieldLink RX2 25 (TX2 4).1 (TX2 4).2.1 (TX2 4).2.2.1 ∈ wsX2_run := by decide +kernel
  have w_3 : Cond.fieldLink RX2 22 (TX2 3).1 (TX2 3).2.1 (TX2 3).2.2.1 ∈ wsX2_run := by decide +kernel
  refine g_aloadn C dX2_run_0 0 rfl rfl ?_
  refine g_get C fx2 w_0 0 5 (v := .int (gP g)) rfl (by decide) w_1 rfl dX2_run_1 ?_
  refine g_topci 0 (hpz) ?_
  refine g_if_neF C 14 dX2_run_4 rfl (by decide) ?_
  refine g_iload C dX2_run_7 4 rfl ?_
  refine g_bipush C 12 dX2_run_9 (by decide) ?_
  refine g_icmpN_le C 16 (d) (12) dX2_run_11 rfl (by omega) (by omega) (fun c_11 => ?_) (fun c_11 => ?_)
  · refine g_iloadn C dX2_run_16 1 rfl rfl ?_
    refine g_iloadn C dX2_run_17 2 rfl rfl ?_
    refine g_call0i C (rd_S C (k_X2_bodyOf l D q tt as_ ac (by first | assumption | omega) (by first | assumption | omega)) gX2_run_X2_bodyOf rfl rfl rfl 2 ok_X2_bodyOf (rest := []) rfl rfl (Nat.le_of_ble_eq_true rfl) dX2_run_18 ⟨(Nat.le_of_ble_eq_true rfl), (Nat.le_of_ble_eq_true rfl)⟩ ⟨(Nat.le_of_ble_eq_true rfl), (Nat.le_of_ble_eq_true rfl)⟩) (fun _ => rfl) (fun r_18 _ h_18 => ?_)
    obtain rfl := h_18
    refine g_topci 50 (hb) ?_
    refine g_istore C [(5, .int 50), (0, .ref (a 0)), (1, .int (nI as_)), (2, .int (nI ac)), (3, .int x), (4, .int (nI d))] dX2_run_21 (by decide) rfl ?_
    refine g_aloadn C dX2_run_23 1 rfl rfl ?_
    refine g_iload C dX2_run_24 0 rfl ?_
    refine g_callAv C (rd_V C (k_X2_note l D q tt a g c0 50 (by first | assumption | omega) (by first | assumption | omega)) gX2_run_X2_note rfl rfl rfl 1 ok_X2_note rfl 0 rfl rfl (rest := []) rfl rfl (Nat.le_of_ble_eq_true rfl) dX2_run_26 ⟨(Nat.le_of_ble_eq_true rfl), (Nat.le_of_ble_eq_true rfl)⟩ ⟨(Nat.le_of_ble_eq_true rfl), (Nat.le_of_ble_eq_true rfl)⟩) (fun _ h_26 => ?_)
    refine g_iload C dX2_run_29 5 rfl ?_
    refine g_iconst C 1 dX2_run_31 (by decide) ?_
    refine g_iadd C dX2_run_32 ?_
    refine g_topci (nI (d + 1)) ((ix_add rfl rfl)) ?_
    refine g_istore C [(6, .int (nI (d + 1))), (5, .int 50), (0, .ref (a 0)), (1, .int (nI as_)), (2, .int (nI ac)), (3, .int x), (4, .int (nI d))] dX2_run_33 (by decide) rfl ?_
    refine g_iload C dX2_run_35 1 rfl ?_
    refine g_tin C 401 dX2_run_37 (by decide) (by decide) rfl rfl ?_
    refine g_aloadn C dX2_run_401 2 rfl rfl ?_
    refine g_iconst C 1 dX2_run_402 (by decide) ?_
    refine g_iconst C 2 dX2_run_403 (by decide) ?_
    refine g_iloadn C dX2_run_404 5 rfl rfl ?_
    refine g_aloadn C dX2_run_405 2 rfl rfl ?_
    refine g_get C fx2 w_0 0 4 (v := .int (gE g)) rfl (by decide) w_2 rfl dX2_run_406 ?_
    refine g_iadd C dX2_run_409 ?_
    refine g_iload C dX2_run_410 0 rfl ?_
    refine g_callAi C (rd_V C (k_run12 l D q tt a ((noB (gB g) c0 50), (nI (noC c0)), (gK g), (gU g), (gE g), (gP g)) (noC c0) 1 2 (x + (gE g)) (d + 1) rfl (noC_le hc30) hpz (by omega) (by omega) rfl (by omega)) gX2_run_X2_run rfl rfl rfl 4 ok_X2_run rfl 0 rfl rfl (rest := []) rfl rfl (Nat.le_of_ble_eq_true rfl) dX2_run_412 ⟨(Nat.le_of_ble_eq_true rfl), (Nat.le_of_ble_eq_true rfl)⟩ ⟨(Nat.le_of_ble_eq_true rfl), (Nat.le_of_ble_eq_true rfl)⟩) (fun r_412 _ h_412 => ?_)
    obtain rfl := h_412
    refine g_wsc (sw q a (((a12 (gU g) (gE g) (x + (gE g)) ((noB (gB g) c0 50), (noC c0))).2.1.1), (nI (a12 (gU g) (gE g) (x + (gE g)) ((noB (gB g) c0 50), (noC c0))).2.1.2), (gK g), (gU g), (gE g), ((a12 (gU g) (gE g) (x + (gE g)) ((noB (gB g) c0 50), (noC c0))).2.2))) rfl ?_
    refine g_topci ((a12 (gU g) (gE g) (x + (gE g)) ((noB (gB g) c0 50), (noC c0))).1) rfl ?_
    refine g_aloadn C dX2_run_415 2 rfl rfl ?_
    refine g_get C fx2 w_0 0 3 (v := .int (gU g)) rfl (by decide) w_3 rfl dX2_run_416 ?_
    refine g_isub C dX2_run_419 ?_
    exact g_iret C () hr dX2_run_420 (Nat.le_of_ble_eq_true rfl) (Nat.le_of_ble_eq_true rfl) rfl (rfl)
  · exfalso
    omega

set_option maxRecDepth 100000 in
set_option maxHeartbeats 4000000 in
theorem k_run61p (l : Launch) (D : va_G) (q : Nat → ClassId) (tt : Nat → Nat) (a : Nat → Nat) (g : GC) (c0 : Nat) (kd : Nat) (as_ : Nat) (ac : Nat) (x : Int32) (d : Nat) (hc : gN g = nI c0) (hc30 : c0 ≤ 30) (hkd : gK g = nI kd) (hk5 : kd ≤ 5) (hpz : gP g = 0) (hAs : as_ ≤ 5) (hAc : ac ≤ 3) (hb : tBO.getD (as_ * 4 + ac) 0 = 61) (hd : d + 4 ≤ 13) (hna : gU g = gE g) : MI l D q tt yX2_run wsX2_run ({ frames := 3, cells := 0, slots := 0, locals := 70 } : Room) [.ref (a 0), .int (nI as_), .int (nI ac), .int x, .int (nI d)] (sw q a g) (fun (r : Int32) (u : Unit) => r = (a61 (gU g) (gE g) kd x ((gB g), c0)).1) (fun (_ : Unit) => (sw q a (((a61 (gU g) (gE g) kd x ((gB g), c0)).2.1.1), (nI (a61 (gU g) (gE g) kd x ((gB g), c0)).2.1.2), (gK g), (gU g), (gE g), ((a61 (gU g) (gE g) kd x ((gB g), c0)).2.2)))) 0 0 := by
  refine MI.of RX2 [(0, .ref (a 0)), (1, .int (nI as_)), (2, .int (nI ac)), (3, .int x), (4, .int (nI d))] (by decide) rfl rfl (Nat.le_of_ble_eq_true rfl) rfl ?_
  intro p e s m args below meth c A C hr hnm
  have w_0 : ∀ w ∈ u_ws RX2 TX2 6, w ∈ wsX2_run := by decide +kernel
  have w_1 : Cond.fieldLink RX2 28 (TX2 5).1 (TX2 5).2.1 (TX2 5).2.2.1 ∈ wsX2_run := by decide +kernel
  have w_2 : Cond.fieldLink RX2 19 (TX2 2).1 (TX2 2).2.1 (TX2 2).2.2.1 ∈ wsX2_run := by decide +kernel
  have w_3 : Cond.fieldLink RX2 22 (TX2 3).1 (TX2 3).2.1 (TX2 3).2.2.1 ∈ wsX2_run := by decide +kernel
  refine g_aloadn C dX2_run_0 0 rfl rfl ?_
  refine g_get C fx2 w_0 0 5 (v := .int (gP g)) rfl (by decide) w_1 rfl dX2_run_1 ?_
  refine g_topci 0 (hpz) ?_
  refine g_if_neF C 14 dX2_run_4 rfl (by decide) ?_
  refine g_iload C dX2_run_7 4 rfl ?_
  refine g_bipush C 12 dX2_run_9 (by decide) ?_
  refine g_icmpN_le C 16 (d) (12) dX2_run_11 rfl (by omega) (by omega) (fun c_11 => ?_) (fun c_11 => ?_)
  · refine g_iloadn C dX2_run_16 1 rfl rfl ?_
    refine g_iloadn C dX2_run_17 2 rfl rfl ?_
    refine g_call0i C (rd_S C (k_X2_bodyOf l D q tt as_ ac (by first | assumption | omega) (by first | assumption | omega)) gX2_run_X2_bodyOf rfl rfl rfl 2 ok_X2_bodyOf (rest := []) rfl rfl (Nat.le_of_ble_eq_true rfl) dX2_run_18 ⟨(Nat.le_of_ble_eq_true rfl), (Nat.le_of_ble_eq_true rfl)⟩ ⟨(Nat.le_of_ble_eq_true rfl), (Nat.le_of_ble_eq_true rfl)⟩) (fun _ => rfl) (fun r_18 _ h_18 => ?_)
    obtain rfl := h_18
    refine g_topci 61 (hb) ?_
    refine g_istore C [(5, .int 61), (0, .ref (a 0)), (1, .int (nI as_)), (2, .int (nI ac)), (3, .int x), (4, .int (nI d))] dX2_run_21 (by decide) rfl ?_
    refine g_aloadn C dX2_run_23 1 rfl rfl ?_
    refine g_iload C dX2_run_24 0 rfl ?_
    refine g_callAv C (rd_V C (k_X2_note l D q tt a g c0 61 (by first | assumption | omega) (by first | assumption | omega)) gX2_run_X2_note rfl rfl rfl 1 ok_X2_note rfl 0 rfl rfl (rest := []) rfl rfl (Nat.le_of_ble_eq_true rfl) dX2_run_26 ⟨(Nat.le_of_ble_eq_true rfl), (Nat.le_of_ble_eq_true rfl)⟩ ⟨(Nat.le_of_ble_eq_true rfl), (Nat.le_of_ble_eq_true rfl)⟩) (fun _ h_26 => ?_)
    refine g_iload C dX2_run_29 5 rfl ?_
    refine g_iconst C 1 dX2_run_31 (by decide) ?_
    refine g_iadd C dX2_run_32 ?_
    refine g_topci (nI (d + 1)) ((ix_add rfl rfl)) ?_
    refine g_istore C [(6, .int (nI (d + 1))), (5, .int 61), (0, .ref (a 0)), (1, .int (nI as_)), (2, .int (nI ac)), (3, .int x), (4, .int (nI d))] dX2_run_33 (by decide) rfl ?_
    refine g_iload C dX2_run_35 1 rfl ?_
    refine g_tin C 445 dX2_run_37 (by decide) (by decide) rfl rfl ?_
    refine g_aloadn C dX2_run_445 2 rfl rfl ?_
    refine g_iconst C 0 dX2_run_446 (by decide) ?_
    refine g_iconst C 2 dX2_run_447 (by decide) ?_
    refine g_iloadn C dX2_run_448 5 rfl rfl ?_
    refine g_iload C dX2_run_449 0 rfl ?_
    refine g_callAi C (rd_V C (k_run12 l D q tt a ((noB (gB g) c0 61), (nI (noC c0)), (gK g), (gU g), (gE g), (gP g)) (noC c0) 0 2 x (d + 1) rfl (noC_le hc30) hpz (by omega) (by omega) rfl (by omega)) gX2_run_X2_run rfl rfl rfl 4 ok_X2_run rfl 0 rfl rfl (rest := []) rfl rfl (Nat.le_of_ble_eq_true rfl) dX2_run_451 ⟨(Nat.le_of_ble_eq_true rfl), (Nat.le_of_ble_eq_true rfl)⟩ ⟨(Nat.le_of_ble_eq_true rfl), (Nat.le_of_ble_eq_true rfl)⟩) (fun r_451 _ h_451 => ?_)
    obtain rfl := h_451
    refine g_wsc (sw q a (((a12 (gU g) (gE g) x ((noB (gB g) c0 61), (noC c0))).2.1.1), (nI (a12 (gU g) (gE g) x ((noB (gB g) c0 61), (noC c0))).2.1.2), (gK g), (gU g), (gE g), ((a12 (gU g) (gE g) x ((noB (gB g) c0 61), (noC c0))).2.2))) rfl ?_
    refine g_topci ((a12 (gU g) (gE g) x ((noB (gB g) c0 61), (noC c0))).1) rfl ?_
    refine g_aloadn C dX2_run_454 2 rfl rfl ?_
    refine g_aloadn C dX2_run_455 2 rfl rfl ?_
    refine g_get C fx2 w_0 0 2 (v := .int (gK g)) rfl (by decide) w_2 rfl dX2_run_456 ?_
    refine g_topci (nI kd) (hkd) ?_
    refine g_iconst C 0 dX2_run_459 (by decide) ?_
    refine g_aloadn C dX2_run_460 2 rfl rfl ?_
    refine g_get C fx2 w_0 0 3 (v := .int (gU g)) rfl (by decide) w_3 rfl dX2_run_461 ?_
    refine g_iload C dX2_run_464 0 rfl ?_
    refine g_callAi C (rd_V C (k_runZ l D q tt a (((a12 (gU g) (gE g) x ((noB (gB g) c0 61), (noC c0))).2.1.1), (nI (a12 (gU g) (gE g) x ((noB (gB g) c0 61), (noC c0))).2.1.2), (gK g), (gU g), (gE g), ((a12 (gU g) (gE g) x ((noB (gB g) c0 61), (noC c0))).2.2)) (nI kd) 0 (gU g) (nI (d + 1)) (by unfold a12; first | (rw [if_pos hna]; done) | (rw [if_pos hna]; rfl))) gX2_run_X2_run rfl rfl rfl 4 ok_X2_run rfl 0 rfl rfl (rest := [.int ((a12 (gU g) (gE g) x ((noB (gB g) c0 61), (noC c0))).1)]) rfl rfl (Nat.le_of_ble_eq_true rfl) dX2_run_466 ⟨(Nat.le_of_ble_eq_true rfl), (Nat.le_of_ble_eq_true rfl)⟩ ⟨(Nat.le_of_ble_eq_true rfl), (Nat.le_of_ble_eq_true rfl)⟩) (fun r_466 _ h_466 => ?_)
    obtain rfl := h_466
    refine g_topci 0 rfl ?_
    refine g_ixor C dX2_run_469 ?_
    refine g_wsc (sw q a (((a61 (gU g) (gE g) kd x ((gB g), c0)).2.1.1), (nI (a12 (gU g) (gE g) x ((noB (gB g) c0 61), (noC c0))).2.1.2), (gK g), (gU g), (gE g), ((a12 (gU g) (gE g) x ((noB (gB g) c0 61), (noC c0))).2.2))) (by unfold a61; first | (rw [if_pos hna]; done) | (rw [if_pos hna]; rfl)) ?_
    refine g_wsc (sw q a (((a61 (gU g) (gE g) kd x ((gB g), c0)).2.1.1), (nI (a61 (gU g) (gE g) kd x ((gB g), c0)).2.1.2), (gK g), (gU g), (gE g), ((a12 (gU g) (gE g) x ((noB (gB g) c0 61), (noC c0))).2.2))) (by unfold a61; first | (rw [if_pos hna]; done) | (rw [if_pos hna]; rfl)) ?_
    refine g_wsc (sw q a (((a61 (gU g) (gE g) kd x ((gB g), c0)).2.1.1), (nI (a61 (gU g) (gE g) kd x ((gB g), c0)).2.1.2), (gK g), (gU g), (gE g), ((a61 (gU g) (gE g) kd x ((gB g), c0)).2.2))) (by unfold a61; first | (rw [if_pos hna]; done) | (rw [if_pos hna]; rfl)) ?_
    exact g_iret C () hr dX2_run_470 (Nat.le_of_ble_eq_true rfl) (Nat.le_of_ble_eq_true rfl) rfl (by unfold a61; rw [if_pos hna]; unfold a12; rw [if_pos hna]; exact (by decide : (0 : Int32) ^^^ 0 = 0))
  · exfalso
    omega

set_option maxRecDepth 100000 in
set_option maxHeartbeats 4000000 in
theorem k_run61n (l : Launch) (D : va_G) (q : Nat → ClassId) (tt : Nat → Nat) (a : Nat → Nat) (g : GC) (c0 : Nat) (kd : Nat) (as_ : Nat) (ac : Nat) (x : Int32) (d : Nat) (hc : gN g = nI c0) (hc30 : c0 ≤ 30) (hkd : gK g = nI kd) (hk5 : kd ≤ 5) (hpz : gP g = 0) (hAs : as_ ≤ 5) (hAc : ac ≤ 3) (hb : tBO.getD (as_ * 4 + ac) 0 = 61) (hd : d + 4 ≤ 13) (hna : ¬ gU g = gE g) : MI l D q tt yX2_run wsX2_run ({ frames := 5, cells := 0, slots := 0, locals := 122 } : Room) [.ref (a 0), .int (nI as_), .int (nI ac), .int x, .int (nI d)] (sw q a g) (fun (r : Int32) (u : Unit) => r = (a61 (gU g) (gE g) kd x ((gB g), c0)).1) (fun (_ : Unit) => (sw q a (((a61 (gU g) (gE g) kd x ((gB g), c0)).2.1.1), (nI (a61 (gU g) (gE g) kd x ((gB g), c0)).2.1.2), (gK g), (gU g), (gE g), ((a61 (gU g) (gE g) kd x ((gB g), c0)).2.2)))) 0 0 := by
  refine MI.of RX2 [(0, .ref (a 0)), (1, .int (nI as_)), (2, .int (nI ac)), (3, .int x), (4, .int (nI d))] (by decide) rfl rfl (Nat.le_of_ble_eq_true rfl) rfl ?_
  intro p e s m args below meth c A C hr hnm
  have w_0 : ∀ w ∈ u_ws RX2 TX2 6, w ∈ wsX2_run := by decide +kernel
  have w_1 : Cond.fieldLink RX2 28 (TX2 5).1 (TX2 5).2.1 (TX2 5).2.2.1 ∈ wsX2_run := by decide +kernel
  have w_2 : Cond.fieldLink RX2 19 (TX2 2).1 (TX2 2).2.1 (TX2 2).2.2.1 ∈ wsX2_run := by decide +kernel
  have w_3 : Cond.fieldLink RX2 22 (TX2 3).1 (TX2 3).2.1 (TX2 3).2.2.1 ∈ wsX2_run := by decide +kernel
  refine g_aloadn C dX2_run_0 0 rfl rfl ?_
  refine g_get C fx2 w_0 0 5 (v := .int (gP g)) rfl (by decide) w_1 rfl dX2_run_1 ?_
  refine g_topci 0 (hpz) ?_
  refine g_if_neF C 14 dX2_run_4 rfl (by decide) ?_
  refine g_iload C dX2_run_7 4 rfl ?_
  refine g_bipush C 12 dX2_run_9 (by decide) ?_
  refine g_icmpN_le C 16 (d) (12) dX2_run_11 rfl (by omega) (by omega) (fun c_11 => ?_) (fun c_11 => ?_)
  · refine g_iloadn C dX2_run_16 1 rfl rfl ?_
    refine g_iloadn C dX2_run_17 2 rfl rfl ?_
    refine g_call0i C (rd_S C (k_X2_bodyOf l D q tt as_ ac (by first | assumption | omega) (by first | assumption | omega)) gX2_run_X2_bodyOf rfl rfl rfl 2 ok_X2_bodyOf (rest := []) rfl rfl (Nat.le_of_ble_eq_true rfl) dX2_run_18 ⟨(Nat.le_of_ble_eq_true rfl), (Nat.le_of_ble_eq_true rfl)⟩ ⟨(Nat.le_of_ble_eq_true rfl), (Nat.le_of_ble_eq_true rfl)⟩) (fun _ => rfl) (fun r_18 _ h_18 => ?_)
    obtain rfl := h_18
    refine g_topci 61 (hb) ?_
    refine g_istore C [(5, .int 61), (0, .ref (a 0)), (1, .int (nI as_)), (2, .int (nI ac)), (3, .int x), (4, .int (nI d))] dX2_run_21 (by decide) rfl ?_
    refine g_aloadn C dX2_run_23 1 rfl rfl ?_
    refine g_iload C dX2_run_24 0 rfl ?_
    refine g_callAv C (rd_V C (k_X2_note l D q tt a g c0 61 (by first | assumption | omega) (by first | assumption | omega)) gX2_run_X2_note rfl rfl rfl 1 ok_X2_note rfl 0 rfl rfl (rest := []) rfl rfl (Nat.le_of_ble_eq_true rfl) dX2_run_26 ⟨(Nat.le_of_ble_eq_true rfl), (Nat.le_of_ble_eq_true rfl)⟩ ⟨(Nat.le_of_ble_eq_true rfl), (Nat.le_of_ble_eq_true rfl)⟩) (fun _ h_26 => ?_)
    refine g_iload C dX2_run_29 5 rfl ?_
    refine g_iconst C 1 dX2_run_31 (by decide) ?_
    refine g_iadd C dX2_run_32 ?_
    refine g_topci (nI (d + 1)) ((ix_add rfl rfl)) ?_
    refine g_istore C [(6, .int (nI (d + 1))), (5, .int 61), (0, .ref (a 0)), (1, .int (nI as_)), (2, .int (nI ac)), (3, .int x), (4, .int (nI d))] dX2_run_33 (by decide) rfl ?_
    refine g_iload C dX2_run_35 1 rfl ?_
    refine g_tin C 445 dX2_run_37 (by decide) (by decide) rfl rfl ?_
    refine g_aloadn C dX2_run_445 2 rfl rfl ?_
    refine g_iconst C 0 dX2_run_446 (by decide) ?_
    refine g_iconst C 2 dX2_run_447 (by decide) ?_
    refine g_iloadn C dX2_run_448 5 rfl rfl ?_
    refine g_iload C dX2_run_449 0 rfl ?_
    refine g_callAi C (rd_V C (k_run12 l D q tt a ((noB (gB g) c0 61), (nI (noC c0)), (gK g), (gU g), (gE g), (gP g)) (noC c0) 0 2 x (d + 1) rfl (noC_le hc30) hpz (by omega) (by omega) rfl (by omega)) gX2_run_X2_run rfl rfl rfl 4 ok_X2_run rfl 0 rfl rfl (rest := []) rfl rfl (Nat.le_of_ble_eq_true rfl) dX2_run_451 ⟨(Nat.le_of_ble_eq_true rfl), (Nat.le_of_ble_eq_true rfl)⟩ ⟨(Nat.le_of_ble_eq_true rfl), (Nat.le_of_ble_eq_true rfl)⟩) (fun r_451 _ h_451 => ?_)
    obtain rfl := h_451
    refine g_wsc (sw q a (((a12 (gU g) (gE g) x ((noB (gB g) c0 61), (noC c0))).2.1.1), (nI (a12 (gU g) (gE g) x ((noB (gB g) c0 61), (noC c0))).2.1.2), (gK g), (gU g), (gE g), ((a12 (gU g) (gE g) x ((noB (gB g) c0 61), (noC c0))).2.2))) rfl ?_
    refine g_topci ((a12 (gU g) (gE g) x ((noB (gB g) c0 61), (noC c0))).1) rfl ?_
    refine g_aloadn C dX2_run_454 2 rfl rfl ?_
    refine g_aloadn C dX2_run_455 2 rfl rfl ?_
    refine g_get C fx2 w_0 0 2 (v := .int (gK g)) rfl (by decide) w_2 rfl dX2_run_456 ?_
    refine g_topci (nI kd) (hkd) ?_
    refine g_iconst C 0 dX2_run_459 (by decide) ?_
    refine g_aloadn C dX2_run_460 2 rfl rfl ?_
    refine g_get C fx2 w_0 0 3 (v := .int (gU g)) rfl (by decide) w_3 rfl dX2_run_461 ?_
    refine g_iload C dX2_run_464 0 rfl ?_
    refine g_callAi C (rd_V C (k_runCo l D q tt a (((a12 (gU g) (gE g) x ((noB (gB g) c0 61), (noC c0))).2.1.1), (nI (a12 (gU g) (gE g) x ((noB (gB g) c0 61), (noC c0))).2.1.2), (gK g), (gU g), (gE g), ((a12 (gU g) (gE g) x ((noB (gB g) c0 61), (noC c0))).2.2)) ((a12 (gU g) (gE g) x (noS ((gB g), c0) 61)).2.1.2) kd (gU g) (d + 1) rfl (a12_le (n := (gU g)) (a := (gE g)) (x := x) (z := (noS ((gB g), c0) 61)) (noC_le hc30)) hkd hk5 (by unfold a12; first | (rw [if_neg hna]; done) | (rw [if_neg hna]; rfl)) (by omega)) gX2_run_X2_run rfl rfl rfl 4 ok_X2_run rfl 0 rfl rfl (rest := [.int ((a12 (gU g) (gE g) x ((noB (gB g) c0 61), (noC c0))).1)]) rfl rfl (Nat.le_of_ble_eq_true rfl) dX2_run_466 ⟨(Nat.le_of_ble_eq_true rfl), (Nat.le_of_ble_eq_true rfl)⟩ ⟨(Nat.le_of_ble_eq_true rfl), (Nat.le_of_ble_eq_true rfl)⟩) (fun r_466 _ h_466 => ?_)
    obtain rfl := h_466
    refine g_wsc (sw q a (((aCo (gU g) kd (gU g) ((a12 (gU g) (gE g) x ((noB (gB g) c0 61), (noC c0))).2.1.1, ((a12 (gU g) (gE g) x (noS ((gB g), c0) 61)).2.1.2))).2.1), (nI (aCo (gU g) kd (gU g) ((a12 (gU g) (gE g) x ((noB (gB g) c0 61), (noC c0))).2.1.1, ((a12 (gU g) (gE g) x (noS ((gB g), c0) 61)).2.1.2))).2.2), (gK g), (gU g), (gE g), ((a12 (gU g) (gE g) x ((noB (gB g) c0 61), (noC c0))).2.2))) rfl ?_
    refine g_topci ((aCo (gU g) kd (gU g) ((a12 (gU g) (gE g) x ((noB (gB g) c0 61), (noC c0))).2.1.1, ((a12 (gU g) (gE g) x (noS ((gB g), c0) 61)).2.1.2))).1) rfl ?_
    refine g_ixor C dX2_run_469 ?_
    refine g_wsc (sw q a (((a61 (gU g) (gE g) kd x ((gB g), c0)).2.1.1), (nI (aCo (gU g) kd (gU g) ((a12 (gU g) (gE g) x ((noB (gB g) c0 61), (noC c0))).2.1.1, ((a12 (gU g) (gE g) x (noS ((gB g), c0) 61)).2.1.2))).2.2), (gK g), (gU g), (gE g), ((a12 (gU g) (gE g) x ((noB (gB g) c0 61), (noC c0))).2.2))) (by unfold a61; first | (rw [if_neg hna]; done) | (rw [if_neg hna]; rfl)) ?_
    refine g_wsc (sw q a (((a61 (gU g) (gE g) kd x ((gB g), c0)).2.1.1), (nI (a61 (gU g) (gE g) kd x ((gB g), c0)).2.1.2), (gK g), (gU g), (gE g), ((a12 (gU g) (gE g) x ((noB (gB g) c0 61), (noC c0))).2.2))) (by unfold a61; first | (rw [if_neg hna]; done) | (rw [if_neg hna]; rfl)) ?_
    refine g_wsc (sw q a (((a61 (gU g) (gE g) kd x ((gB g), c0)).2.1.1), (nI (a61 (gU g) (gE g) kd x ((gB g), c0)).2.1.2), (gK g), (gU g), (gE g), ((a61 (gU g) (gE g) kd x ((gB g), c0)).2.2))) (by rw [a12_Pn hna, a61_Pn hna]) ?_
    exact g_iret C () hr dX2_run_470 (Nat.le_of_ble_eq_true rfl) (Nat.le_of_ble_eq_true rfl) rfl (by unfold a61; rw [if_neg hna]; rfl)
  · exfalso
    omega

set_option maxRecDepth 100000 in
set_option maxHeartbeats 4000000 in
theorem k_run12D (l : Launch) (D : va_G) (q : Nat → ClassId) (tt : Nat → Nat) (a : Nat → Nat) (g : GC) (c0 : Nat) (as_ : Nat) (ac : Nat) (x : Int32) (d : Nat) (hc : gN g = nI c0) (hc30 : c0 ≤ 30) (hpz : gP g = 0) (hAs : as_ ≤ 5) (hAc : ac ≤ 3) (hb : tBO.getD (as_ * 4 + ac) 0 = 12) (hd : d + 1 ≤ 13) : MI l D q tt yX2_run wsX2_run ({ frames := 5, cells := 0, slots := 0, locals := 122 } : Room) [.ref (a 0), .int (nI as_), .int (nI ac), .int x, .int (nI d)] (sw q a g) (fun (r : Int32) (u : Unit) => r = (a12 (gU g) (gE g) x ((gB g), c0)).1) (fun (_ : Unit) => (sw q a (((a12 (gU g) (gE g) x ((gB g), c0)).2.1.1), (nI (a12 (gU g) (gE g) x ((gB g), c0)).2.1.2), (gK g), (gU g), (gE g), ((a12 (gU g) (gE g) x ((gB g), c0)).2.2)))) 0 0 := by
  refine MI.of RX2 [(0, .ref (a 0)), (1, .int (nI as_)), (2, .int (nI ac)), (3, .int x), (4, .int (nI d))] (by decide) rfl rfl (Nat.le_of_ble_eq_true rfl) rfl ?_
  intro p e s m args below meth c A C hr hnm
  have w_0 : ∀ w ∈ u_ws RX2 TX2 6, w ∈ wsX2_run := by decide +kernel
  have w_1 : Cond.fieldLink RX2 28 (TX2 5).1 (TX2 5).2.1 (TX2 5).2.2.1 ∈ wsX2_run := by decide +kernel
  refine g_aloadn C dX2_run_0 0 rfl rfl ?_
  refine g_get C fx2 w_0 0 5 (v := .int (gP g)) rfl (by decide) w_1 rfl dX2_run_1 ?_
  refine g_topci 0 (hpz) ?_
  refine g_if_neF C 14 dX2_run_4 rfl (by decide) ?_
  refine g_iload C dX2_run_7 4 rfl ?_
  refine g_bipush C 12 dX2_run_9 (by decide) ?_
  refine g_icmpN_le C 16 (d) (12) dX2_run_11 rfl (by omega) (by omega) (fun c_11 => ?_) (fun c_11 => ?_)
  · refine g_iloadn C dX2_run_16 1 rfl rfl ?_
    refine g_iloadn C dX2_run_17 2 rfl rfl ?_
    refine g_call0i C (rd_S C (k_X2_bodyOf l D q tt as_ ac (by first | assumption | omega) (by first | assumption | omega)) gX2_run_X2_bodyOf rfl rfl rfl 2 ok_X2_bodyOf (rest := []) rfl rfl (Nat.le_of_ble_eq_true rfl) dX2_run_18 ⟨(Nat.le_of_ble_eq_true rfl), (Nat.le_of_ble_eq_true rfl)⟩ ⟨(Nat.le_of_ble_eq_true rfl), (Nat.le_of_ble_eq_true rfl)⟩) (fun _ => rfl) (fun r_18 _ h_18 => ?_)
    obtain rfl := h_18
    refine g_topci 12 (hb) ?_
    refine g_istore C [(5, .int 12), (0, .ref (a 0)), (1, .int (nI as_)), (2, .int (nI ac)), (3, .int x), (4, .int (nI d))] dX2_run_21 (by decide) rfl ?_
    refine g_aloadn C dX2_run_23 1 rfl rfl ?_
    refine g_iload C dX2_run_24 0 rfl ?_
    refine g_callAv C (rd_V C (k_X2_note l D q tt a g c0 12 (by first | assumption | omega) (by first | assumption | omega)) gX2_run_X2_note rfl rfl rfl 1 ok_X2_note rfl 0 rfl rfl (rest := []) rfl rfl (Nat.le_of_ble_eq_true rfl) dX2_run_26 ⟨(Nat.le_of_ble_eq_true rfl), (Nat.le_of_ble_eq_true rfl)⟩ ⟨(Nat.le_of_ble_eq_true rfl), (Nat.le_of_ble_eq_true rfl)⟩) (fun _ h_26 => ?_)
    refine g_iload C dX2_run_29 5 rfl ?_
    refine g_iconst C 1 dX2_run_31 (by decide) ?_
    refine g_iadd C dX2_run_32 ?_
    refine g_topci (nI (d + 1)) ((ix_add rfl rfl)) ?_
    refine g_istore C [(6, .int (nI (d + 1))), (5, .int 12), (0, .ref (a 0)), (1, .int (nI as_)), (2, .int (nI ac)), (3, .int x), (4, .int (nI d))] dX2_run_33 (by decide) rfl ?_
    refine g_iload C dX2_run_35 1 rfl ?_
    refine g_tin C 290 dX2_run_37 (by decide) (by decide) rfl rfl ?_
    refine g_aloadn C dX2_run_290 2 rfl rfl ?_
    refine g_iloadn C dX2_run_291 5 rfl rfl ?_
    refine g_callAi C (rd_V C (k_X2_part l D q tt a ((noB (gB g) c0 12), (nI (noC c0)), (gK g), (gU g), (gE g), (gP g)) x ((gB g), c0) hpz) gX2_run_X2_part rfl rfl rfl 1 ok_X2_part rfl 0 rfl rfl (rest := []) rfl rfl (Nat.le_of_ble_eq_true rfl) dX2_run_292 ⟨(Nat.le_of_ble_eq_true rfl), (Nat.le_of_ble_eq_true rfl)⟩ ⟨(Nat.le_of_ble_eq_true rfl), (Nat.le_of_ble_eq_true rfl)⟩) (fun r_292 _ h_292 => ?_)
    obtain rfl := h_292
    refine g_wsc (sw q a ((noB (gB g) c0 12), (nI (noC c0)), (gK g), (gU g), (gE g), ((a12 (gU g) (gE g) x ((gB g), c0)).2.2))) rfl ?_
    refine g_topci ((a12 (gU g) (gE g) x ((gB g), c0)).1) rfl ?_
    refine g_wsc (sw q a (((a12 (gU g) (gE g) x ((gB g), c0)).2.1.1), (nI (noC c0)), (gK g), (gU g), (gE g), ((a12 (gU g) (gE g) x ((gB g), c0)).2.2))) (by first | (rw [a12_z]; done) | (rw [a12_z]; rfl)) ?_
    refine g_wsc (sw q a (((a12 (gU g) (gE g) x ((gB g), c0)).2.1.1), (nI (a12 (gU g) (gE g) x ((gB g), c0)).2.1.2), (gK g), (gU g), (gE g), ((a12 (gU g) (gE g) x ((gB g), c0)).2.2))) (by first | (rw [a12_z]; done) | (rw [a12_z]; rfl)) ?_
    exact g_iret C () hr dX2_run_295 (Nat.le_of_ble_eq_true rfl) (Nat.le_of_ble_eq_true rfl) rfl (rfl)
  · exfalso
    omega

