set_option maxRecDepth 100000 in
set_option maxHeartbeats 4000000 in
theorem k_X5_runs (l : Launch) (D : va_G) (q : Nat → ClassId) (tt : Nat → Nat) (a : Nat → Nat) (v : MC) (c0 : Nat) (b : Int32) (hc : (m_ran v) = nI c0) (hc30 : c0 ≤ 30) : MV l D q tt yX5_runs wsX5_runs ({ frames := 0, cells := 0, slots := 0, locals := 0 } : Room) [.ref (a 0), .int b] (mw q a v) (fun (u : Unit) => True) (fun (_ : Unit) => (mw q a ((m_s v), (m_held v), (m_aside v), (m_before v), (m_untried v), (m_isHeld v), (m_tape v), (m_taped v), (m_token v), (m_from v), (m_to v), (m_value v), (m_isWrong v), (m_heard v), (m_isMoved v), (m_rows v), (m_rowN v), (m_sortOf v), (m_sizeOf v), (m_numbers v), (m_holdsWhat v), (m_holdsWhich v), (m_holdsMany v), (noB (m_bodies v) c0 b), (nI (noC c0)), (m_actKind v), (m_actN v), (m_actA v), (m_isParted v)))) 0 0 := by
  refine MV.of RX5 [(0, .ref (a 0)), (1, .int b)] (by decide) rfl rfl (Nat.le_of_ble_eq_true rfl) rfl ?_
  intro p e s m args below meth c A C hr hnm
  have w_0 : ∀ w ∈ u_ws RX5 TX5 29, w ∈ wsX5_runs := by decide +kernel
  have w_1 : Cond.fieldLink RX5 289 (TX5 24).1 (TX5 24).2.1 (TX5 24).2.2.1 ∈ wsX5_runs := by decide +kernel
  have w_2 : Cond.fieldLink RX5 56 (TX5 23).1 (TX5 23).2.1 (TX5 23).2.2.1 ∈ wsX5_runs := by decide +kernel
  refine g_aloadn C dX5_runs_0 0 rfl rfl ?_
  refine g_get C fx5 w_0 0 24 (v := .int (m_ran v)) rfl (by decide) w_1 rfl dX5_runs_1 ?_
  refine g_topci (nI c0) (hc) ?_
  refine g_bipush C 30 dX5_runs_4 (by decide) ?_
  refine g_icmpN_ge C 29 (c0) (30) dX5_runs_6 rfl (by omega) (by omega) (fun c_6 => ?_) (fun c_6 => ?_)
  · refine g_wsc (mw q a ((m_s v), (m_held v), (m_aside v), (m_before v), (m_untried v), (m_isHeld v), (m_tape v), (m_taped v), (m_token v), (m_from v), (m_to v), (m_value v), (m_isWrong v), (m_heard v), (m_isMoved v), (m_rows v), (m_rowN v), (m_sortOf v), (m_sizeOf v), (m_numbers v), (m_holdsWhat v), (m_holdsWhich v), (m_holdsMany v), (noB (m_bodies v) c0 b), (m_ran v), (m_actKind v), (m_actN v), (m_actA v), (m_isParted v))) (by unfold noB; first | (rw [if_neg (by omega)]; done) | (rw [if_neg (by omega)]; rfl) | (rw [if_pos (by omega)]; done) | (rw [if_pos (by omega)]; rfl)) ?_
    refine g_wsc (mw q a ((m_s v), (m_held v), (m_aside v), (m_before v), (m_untried v), (m_isHeld v), (m_tape v), (m_taped v), (m_token v), (m_from v), (m_to v), (m_value v), (m_isWrong v), (m_heard v), (m_isMoved v), (m_rows v), (m_rowN v), (m_sortOf v), (m_sizeOf v), (m_numbers v), (m_holdsWhat v), (m_holdsWhich v), (m_holdsMany v), (noB (m_bodies v) c0 b), (nI (noC c0)), (m_actKind v), (m_actN v), (m_actA v), (m_isParted v))) (by unfold noC; first | (rw [if_neg (by omega), ← hc]; done) | (rw [if_neg (by omega), ← hc]; rfl) | (rw [if_pos (by omega)]; done) | (rw [if_pos (by omega)]; rfl)) ?_
    exact g_vret C () hr dX5_runs_29 (Nat.le_of_ble_eq_true rfl) (Nat.le_of_ble_eq_true rfl) rfl (trivial)
  · refine g_aloadn C dX5_runs_9 0 rfl rfl ?_
    refine g_get C fx5 w_0 0 23 (v := .ref (a 16)) rfl (by decide) w_2 rfl dX5_runs_10 ?_
    refine g_aloadn C dX5_runs_13 0 rfl rfl ?_
    refine g_get C fx5 w_0 0 24 (v := .int (m_ran v)) rfl (by decide) w_1 rfl dX5_runs_14 ?_
    refine g_topci (nI c0) (hc) ?_
    refine g_iloadn C dX5_runs_17 1 rfl rfl ?_
    refine g_iast C 16 (c0) (f := (m_bodies v)) rfl rfl (by omega) (by decide) dX5_runs_18 (mw q a ((m_s v), (m_held v), (m_aside v), (m_before v), (m_untried v), (m_isHeld v), (m_tape v), (m_taped v), (m_token v), (m_from v), (m_to v), (m_value v), (m_isWrong v), (m_heard v), (m_isMoved v), (m_rows v), (m_rowN v), (m_sortOf v), (m_sizeOf v), (m_numbers v), (m_holdsWhat v), (m_holdsWhich v), (m_holdsMany v), (upd (m_bodies v) c0 b), (m_ran v), (m_actKind v), (m_actN v), (m_actA v), (m_isParted v))) rfl ?_
    refine g_aloadn C dX5_runs_19 0 rfl rfl ?_
    refine g_dup C dX5_runs_20 rfl ?_
    refine g_get C fx5 w_0 0 24 (v := .int (m_ran v)) rfl (by decide) w_1 rfl dX5_runs_21 ?_
    refine g_topci (nI c0) (hc) ?_
    refine g_iconst C 1 dX5_runs_24 (by decide) ?_
    refine g_iadd C dX5_runs_25 ?_
    refine g_topci (nI (c0 + 1)) ((ix_add rfl rfl)) ?_
    refine g_put C fx5 w_0 0 24 rfl (by decide) w_1 rfl rfl rfl (Nat.le_of_ble_eq_true rfl) dX5_runs_26 (mw q a ((m_s v), (m_held v), (m_aside v), (m_before v), (m_untried v), (m_isHeld v), (m_tape v), (m_taped v), (m_token v), (m_from v), (m_to v), (m_value v), (m_isWrong v), (m_heard v), (m_isMoved v), (m_rows v), (m_rowN v), (m_sortOf v), (m_sizeOf v), (m_numbers v), (m_holdsWhat v), (m_holdsWhich v), (m_holdsMany v), (upd (m_bodies v) c0 b), (nI (c0 + 1)), (m_actKind v), (m_actN v), (m_actA v), (m_isParted v))) (by dsimp only [mw, List.set, m_s, m_held, m_aside, m_before, m_untried, m_isHeld, m_tape, m_taped, m_token, m_from, m_to, m_value, m_isWrong, m_heard, m_isMoved, m_rows, m_rowN, m_sortOf, m_sizeOf, m_numbers, m_holdsWhat, m_holdsWhich, m_holdsMany, m_bodies, m_ran, m_actKind, m_actN, m_actA, m_isParted]) ?_
    refine g_wsc (mw q a ((m_s v), (m_held v), (m_aside v), (m_before v), (m_untried v), (m_isHeld v), (m_tape v), (m_taped v), (m_token v), (m_from v), (m_to v), (m_value v), (m_isWrong v), (m_heard v), (m_isMoved v), (m_rows v), (m_rowN v), (m_sortOf v), (m_sizeOf v), (m_numbers v), (m_holdsWhat v), (m_holdsWhich v), (m_holdsMany v), (noB (m_bodies v) c0 b), (nI (c0 + 1)), (m_actKind v), (m_actN v), (m_actA v), (m_isParted v))) (by unfold noB; first | (rw [if_neg (by omega)]; done) | (rw [if_neg (by omega)]; rfl) | (rw [if_pos (by omega)]; done) | (rw [if_pos (by omega)]; rfl)) ?_
    refine g_wsc (mw q a ((m_s v), (m_held v), (m_aside v), (m_before v), (m_untried v), (m_isHeld v), (m_tape v), (m_taped v), (m_token v), (m_from v), (m_to v), (m_value v), (m_isWrong v), (m_heard v), (m_isMoved v), (m_rows v), (m_rowN v), (m_sortOf v), (m_sizeOf v), (m_numbers v), (m_holdsWhat v), (m_holdsWhich v), (m_holdsMany v), (noB (m_bodies v) c0 b), (nI (noC c0)), (m_actKind v), (m_actN v), (m_actA v), (m_isParted v))) (by unfold noC; first | (rw [if_neg (by omega), ← hc]; done) | (rw [if_neg (by omega), ← hc]; rfl) | (rw [if_pos (by omega)]; done) | (rw [if_pos (by omega)]; rfl)) ?_
    exact g_vret C () hr dX5_runs_29 (Nat.le_of_ble_eq_true rfl) (Nat.le_of_ble_eq_true rfl) rfl (trivial)

set_option maxRecDepth 100000 in
set_option maxHeartbeats 4000000 in
theorem k_X5_coughsPlain (l : Launch) (D : va_G) (q : Nat → ClassId) (tt : Nat → Nat) (a : Nat → Nat) (v : MC) (c0 : Nat) (x : Int32) (hc : (m_ran v) = nI c0) (hc30 : c0 ≤ 30) : MI l D q tt yX5_coughsPlain wsX5_coughsPlain ({ frames := 1, cells := 0, slots := 0, locals := 21 } : Room) [.ref (a 0), .int x] (mw q a v) (fun (r : Int32) (u : Unit) => r = (a10 (m_actN v) x ((m_bodies v), c0)).1) (fun (_ : Unit) => (mw q a ((m_s v), (m_held v), (m_aside v), (m_before v), (m_untried v), (m_isHeld v), (m_tape v), (m_taped v), (m_token v), (m_from v), (m_to v), (m_value v), (m_isWrong v), (m_heard v), (m_isMoved v), (m_rows v), (m_rowN v), (m_sortOf v), (m_sizeOf v), (m_numbers v), (m_holdsWhat v), (m_holdsWhich v), (m_holdsMany v), ((a10 (m_actN v) x ((m_bodies v), c0)).2.1), (nI (a10 (m_actN v) x ((m_bodies v), c0)).2.2), (m_actKind v), (m_actN v), (m_actA v), (m_isParted v)))) 0 0 := by
  refine MI.of RX5 [(0, .ref (a 0)), (1, .int x)] (by decide) rfl rfl (Nat.le_of_ble_eq_true rfl) rfl ?_
  intro p e s m args below meth c A C hr hnm
  have w_0 : ∀ w ∈ u_ws RX5 TX5 29, w ∈ wsX5_coughsPlain := by decide +kernel
  have w_1 : Cond.fieldLink RX5 295 (TX5 26).1 (TX5 26).2.1 (TX5 26).2.2.1 ∈ wsX5_coughsPlain := by decide +kernel
  refine g_aloadn C dX5_coughsPlain_0 0 rfl rfl ?_
  refine g_bipush C 10 dX5_coughsPlain_1 (by decide) ?_
  refine g_callAv C (rd_V C (k_X5_runs l D q tt a v c0 10 hc (by first | assumption | omega)) gX5_coughsPlain_X5_runs rfl rfl rfl 1 ok_X5_runs rfl 0 rfl rfl (rest := []) rfl rfl (Nat.le_of_ble_eq_true rfl) dX5_coughsPlain_3 ⟨(Nat.le_of_ble_eq_true rfl), (Nat.le_of_ble_eq_true rfl)⟩ ⟨(Nat.le_of_ble_eq_true rfl), (Nat.le_of_ble_eq_true rfl)⟩) (fun _ h_3 => ?_)
  refine g_iloadn C dX5_coughsPlain_6 1 rfl rfl ?_
  refine g_aloadn C dX5_coughsPlain_7 0 rfl rfl ?_
  refine g_get C fx5 w_0 0 26 (v := .int (m_actN v)) rfl (by decide) w_1 rfl dX5_coughsPlain_8 ?_
  refine g_bipush C 7 dX5_coughsPlain_11 (by decide) ?_
  refine g_imul C dX5_coughsPlain_13 ?_
  refine g_isub C dX5_coughsPlain_14 ?_
  exact g_iret C () hr dX5_coughsPlain_15 (Nat.le_of_ble_eq_true rfl) (Nat.le_of_ble_eq_true rfl) rfl (rfl)

set_option maxRecDepth 100000 in
set_option maxHeartbeats 4000000 in
theorem k_X5_coughsOfHand (l : Launch) (D : va_G) (q : Nat → ClassId) (tt : Nat → Nat) (a : Nat → Nat) (v : MC) (c0 : Nat) (x : Int32) (hc : (m_ran v) = nI c0) (hc30 : c0 ≤ 30) : MI l D q tt yX5_coughsOfHand wsX5_coughsOfHand ({ frames := 2, cells := 0, slots := 0, locals := 42 } : Room) [.ref (a 0), .int x] (mw q a v) (fun (r : Int32) (u : Unit) => r = (a30 (m_actN v) x ((m_bodies v), c0)).1) (fun (_ : Unit) => (mw q a ((m_s v), (m_held v), (m_aside v), (m_before v), (m_untried v), (m_isHeld v), (m_tape v), (m_taped v), (m_token v), (m_from v), (m_to v), (m_value v), (m_isWrong v), (m_heard v), (m_isMoved v), (m_rows v), (m_rowN v), (m_sortOf v), (m_sizeOf v), (m_numbers v), (m_holdsWhat v), (m_holdsWhich v), (m_holdsMany v), ((a30 (m_actN v) x ((m_bodies v), c0)).2.1), (nI (a30 (m_actN v) x ((m_bodies v), c0)).2.2), (m_actKind v), (m_actN v), (m_actA v), (m_isParted v)))) 0 0 := by
  refine MI.of RX5 [(0, .ref (a 0)), (1, .int x)] (by decide) rfl rfl (Nat.le_of_ble_eq_true rfl) rfl ?_
  intro p e s m args below meth c A C hr hnm
  refine g_aloadn C dX5_coughsOfHand_0 0 rfl rfl ?_
  refine g_bipush C 30 dX5_coughsOfHand_1 (by decide) ?_
  refine g_callAv C (rd_V C (k_X5_runs l D q tt a v c0 30 hc (by first | assumption | omega)) gX5_coughsOfHand_X5_runs rfl rfl rfl 1 ok_X5_runs rfl 0 rfl rfl (rest := []) rfl rfl (Nat.le_of_ble_eq_true rfl) dX5_coughsOfHand_3 ⟨(Nat.le_of_ble_eq_true rfl), (Nat.le_of_ble_eq_true rfl)⟩ ⟨(Nat.le_of_ble_eq_true rfl), (Nat.le_of_ble_eq_true rfl)⟩) (fun _ h_3 => ?_)
  refine g_aloadn C dX5_coughsOfHand_6 0 rfl rfl ?_
  refine g_iloadn C dX5_coughsOfHand_7 1 rfl rfl ?_
  refine g_callAi C (rd_V C (k_X5_coughsPlain l D q tt a ((m_s v), (m_held v), (m_aside v), (m_before v), (m_untried v), (m_isHeld v), (m_tape v), (m_taped v), (m_token v), (m_from v), (m_to v), (m_value v), (m_isWrong v), (m_heard v), (m_isMoved v), (m_rows v), (m_rowN v), (m_sortOf v), (m_sizeOf v), (m_numbers v), (m_holdsWhat v), (m_holdsWhich v), (m_holdsMany v), (noB (m_bodies v) c0 30), (nI (noC c0)), (m_actKind v), (m_actN v), (m_actA v), (m_isParted v)) (noC c0) x rfl (noC_le hc30)) gX5_coughsOfHand_X5_coughsPlain rfl rfl rfl 1 ok_X5_coughsPlain rfl 0 rfl rfl (rest := []) rfl rfl (Nat.le_of_ble_eq_true rfl) dX5_coughsOfHand_8 ⟨(Nat.le_of_ble_eq_true rfl), (Nat.le_of_ble_eq_true rfl)⟩ ⟨(Nat.le_of_ble_eq_true rfl), (Nat.le_of_ble_eq_true rfl)⟩) (fun r_8 _ h_8 => ?_)
  obtain rfl := h_8
  refine g_wsc (mw q a ((m_s v), (m_held v), (m_aside v), (m_before v), (m_untried v), (m_isHeld v), (m_tape v), (m_taped v), (m_token v), (m_from v), (m_to v), (m_value v), (m_isWrong v), (m_heard v), (m_isMoved v), (m_rows v), (m_rowN v), (m_sortOf v), (m_sizeOf v), (m_numbers v), (m_holdsWhat v), (m_holdsWhich v), (m_holdsMany v), ((a10 (m_actN v) x ((noB (m_bodies v) c0 30), (noC c0))).2.1), (nI (a10 (m_actN v) x ((noB (m_bodies v) c0 30), (noC c0))).2.2), (m_actKind v), (m_actN v), (m_actA v), (m_isParted v))) rfl ?_
  refine g_topci ((a10 (m_actN v) x ((noB (m_bodies v) c0 30), (noC c0))).1) rfl ?_
  refine g_iconst C 1 dX5_coughsOfHand_11 (by decide) ?_
  refine g_ixor C dX5_coughsOfHand_12 ?_
  exact g_iret C () hr dX5_coughsOfHand_13 (Nat.le_of_ble_eq_true rfl) (Nat.le_of_ble_eq_true rfl) rfl (rfl)

set_option maxRecDepth 100000 in
set_option maxHeartbeats 4000000 in
theorem k_X5_coughs (l : Launch) (D : va_G) (q : Nat → ClassId) (tt : Nat → Nat) (a : Nat → Nat) (v : MC) (c0 : Nat) (kd : Nat) (x : Int32) (hc : (m_ran v) = nI c0) (hc30 : c0 ≤ 30) (hkd : (m_actKind v) = nI kd) (hk5 : kd ≤ 5) : MI l D q tt yX5_coughs wsX5_coughs ({ frames := 3, cells := 0, slots := 0, locals := 63 } : Room) [.ref (a 0), .int x] (mw q a v) (fun (r : Int32) (u : Unit) => r = (aCo (m_actN v) kd x ((m_bodies v), c0)).1) (fun (_ : Unit) => (mw q a ((m_s v), (m_held v), (m_aside v), (m_before v), (m_untried v), (m_isHeld v), (m_tape v), (m_taped v), (m_token v), (m_from v), (m_to v), (m_value v), (m_isWrong v), (m_heard v), (m_isMoved v), (m_rows v), (m_rowN v), (m_sortOf v), (m_sizeOf v), (m_numbers v), (m_holdsWhat v), (m_holdsWhich v), (m_holdsMany v), ((aCo (m_actN v) kd x ((m_bodies v), c0)).2.1), (nI (aCo (m_actN v) kd x ((m_bodies v), c0)).2.2), (m_actKind v), (m_actN v), (m_actA v), (m_isParted v)))) 0 0 := by
  refine MI.of RX5 [(0, .ref (a 0)), (1, .int x)] (by decide) rfl rfl (Nat.le_of_ble_eq_true rfl) rfl ?_
  intro p e s m args below meth c A C hr hnm
  have w_0 : ∀ w ∈ u_ws RX5 TX5 29, w ∈ wsX5_coughs := by decide +kernel
  have w_1 : Cond.fieldLink RX5 301 (TX5 25).1 (TX5 25).2.1 (TX5 25).2.2.1 ∈ wsX5_coughs := by decide +kernel
  refine g_aloadn C dX5_coughs_0 0 rfl rfl ?_
  refine g_get C fx5 w_0 0 25 (v := .int (m_actKind v)) rfl (by decide) w_1 rfl dX5_coughs_1 ?_
  refine g_topci (nI kd) (hkd) ?_
  by_cases s_4_2 : (nI kd) = 2
  · refine g_tin C 32 dX5_coughs_4 (by rw [s_4_2]; decide) (by rw [s_4_2]; decide) (by rw [s_4_2]; rfl) rfl ?_
    have e_ : kd = 2 := (nI_eq (b := 2) (by omega) (by omega)).mp s_4_2
    refine g_aloadn C dX5_coughs_32 0 rfl rfl ?_
    refine g_iloadn C dX5_coughs_33 1 rfl rfl ?_
    refine g_callAi C (rd_V C (k_X5_coughsOfHand l D q tt a v c0 x hc hc30) gX5_coughs_X5_coughsOfHand rfl rfl rfl 1 ok_X5_coughsOfHand rfl 0 rfl rfl (rest := []) rfl rfl (Nat.le_of_ble_eq_true rfl) dX5_coughs_34 ⟨(Nat.le_of_ble_eq_true rfl), (Nat.le_of_ble_eq_true rfl)⟩ ⟨(Nat.le_of_ble_eq_true rfl), (Nat.le_of_ble_eq_true rfl)⟩) (fun r_34 _ h_34 => ?_)
    obtain rfl := h_34
    refine g_wsc (mw q a ((m_s v), (m_held v), (m_aside v), (m_before v), (m_untried v), (m_isHeld v), (m_tape v), (m_taped v), (m_token v), (m_from v), (m_to v), (m_value v), (m_isWrong v), (m_heard v), (m_isMoved v), (m_rows v), (m_rowN v), (m_sortOf v), (m_sizeOf v), (m_numbers v), (m_holdsWhat v), (m_holdsWhich v), (m_holdsMany v), ((aCo (m_actN v) kd x ((m_bodies v), c0)).2.1), (nI (a30 (m_actN v) x ((m_bodies v), c0)).2.2), (m_actKind v), (m_actN v), (m_actA v), (m_isParted v))) (by unfold aCo; first | (rw [if_pos e_]; done) | (rw [if_pos e_]; rfl)) ?_
    refine g_wsc (mw q a ((m_s v), (m_held v), (m_aside v), (m_before v), (m_untried v), (m_isHeld v), (m_tape v), (m_taped v), (m_token v), (m_from v), (m_to v), (m_value v), (m_isWrong v), (m_heard v), (m_isMoved v), (m_rows v), (m_rowN v), (m_sortOf v), (m_sizeOf v), (m_numbers v), (m_holdsWhat v), (m_holdsWhich v), (m_holdsMany v), ((aCo (m_actN v) kd x ((m_bodies v), c0)).2.1), (nI (aCo (m_actN v) kd x ((m_bodies v), c0)).2.2), (m_actKind v), (m_actN v), (m_actA v), (m_isParted v))) (by unfold aCo; first | (rw [if_pos e_]; done) | (rw [if_pos e_]; rfl)) ?_
    exact g_iret C () hr dX5_coughs_37 (Nat.le_of_ble_eq_true rfl) (Nat.le_of_ble_eq_true rfl) rfl (by unfold aCo; first | (rw [if_pos e_]; done) | (rw [if_pos e_]; rfl))
  by_cases s_4_3 : (nI kd) = 3
  · refine g_tin C 52 dX5_coughs_4 (by rw [s_4_3]; decide) (by rw [s_4_3]; decide) (by rw [s_4_3]; rfl) rfl ?_
    have e_ : kd = 3 := (nI_eq (b := 3) (by omega) (by omega)).mp s_4_3
    have n2_ : ¬ kd = 2 := by omega
    have n4_ : ¬ kd = 4 := by omega
    refine g_aloadn C dX5_coughs_52 0 rfl rfl ?_
    refine g_bipush C 51 dX5_coughs_53 (by decide) ?_
    refine g_callAv C (rd_V C (k_X5_runs l D q tt a v c0 51 hc (by first | assumption | omega)) gX5_coughs_X5_runs rfl rfl rfl 1 ok_X5_runs rfl 0 rfl rfl (rest := []) rfl rfl (Nat.le_of_ble_eq_true rfl) dX5_coughs_55 ⟨(Nat.le_of_ble_eq_true rfl), (Nat.le_of_ble_eq_true rfl)⟩ ⟨(Nat.le_of_ble_eq_true rfl), (Nat.le_of_ble_eq_true rfl)⟩) (fun _ h_55 => ?_)
    refine g_aloadn C dX5_coughs_58 0 rfl rfl ?_
    refine g_iloadn C dX5_coughs_59 1 rfl rfl ?_
    refine g_callAi C (rd_V C (k_X5_coughsPlain l D q tt a ((m_s v), (m_held v), (m_aside v), (m_before v), (m_untried v), (m_isHeld v), (m_tape v), (m_taped v), (m_token v), (m_from v), (m_to v), (m_value v), (m_isWrong v), (m_heard v), (m_isMoved v), (m_rows v), (m_rowN v), (m_sortOf v), (m_sizeOf v), (m_numbers v), (m_holdsWhat v), (m_holdsWhich v), (m_holdsMany v), (noB (m_bodies v) c0 51), (nI (noC c0)), (m_actKind v), (m_actN v), (m_actA v), (m_isParted v)) (noC c0) x rfl (noC_le hc30)) gX5_coughs_X5_coughsPlain rfl rfl rfl 1 ok_X5_coughsPlain rfl 0 rfl rfl (rest := []) rfl rfl (Nat.le_of_ble_eq_true rfl) dX5_coughs_60 ⟨(Nat.le_of_ble_eq_true rfl), (Nat.le_of_ble_eq_true rfl)⟩ ⟨(Nat.le_of_ble_eq_true rfl), (Nat.le_of_ble_eq_true rfl)⟩) (fun r_60 _ h_60 => ?_)
    obtain rfl := h_60
    refine g_wsc (mw q a ((m_s v), (m_held v), (m_aside v), (m_before v), (m_untried v), (m_isHeld v), (m_tape v), (m_taped v), (m_token v), (m_from v), (m_to v), (m_value v), (m_isWrong v), (m_heard v), (m_isMoved v), (m_rows v), (m_rowN v), (m_sortOf v), (m_sizeOf v), (m_numbers v), (m_holdsWhat v), (m_holdsWhich v), (m_holdsMany v), ((a10 (m_actN v) x ((noB (m_bodies v) c0 51), (noC c0))).2.1), (nI (a10 (m_actN v) x ((noB (m_bodies v) c0 51), (noC c0))).2.2), (m_actKind v), (m_actN v), (m_actA v), (m_isParted v))) rfl ?_
    refine g_topci ((a10 (m_actN v) x ((noB (m_bodies v) c0 51), (noC c0))).1) rfl ?_
    refine g_iconst C 3 dX5_coughs_63 (by decide) ?_
    refine g_imul C dX5_coughs_64 ?_
    refine g_wsc (mw q a ((m_s v), (m_held v), (m_aside v), (m_before v), (m_untried v), (m_isHeld v), (m_tape v), (m_taped v), (m_token v), (m_from v), (m_to v), (m_value v), (m_isWrong v), (m_heard v), (m_isMoved v), (m_rows v), (m_rowN v), (m_sortOf v), (m_sizeOf v), (m_numbers v), (m_holdsWhat v), (m_holdsWhich v), (m_holdsMany v), ((aCo (m_actN v) kd x ((m_bodies v), c0)).2.1), (nI (a10 (m_actN v) x ((noB (m_bodies v) c0 51), (noC c0))).2.2), (m_actKind v), (m_actN v), (m_actA v), (m_isParted v))) (by unfold aCo; first | (rw [if_neg n2_, if_neg n4_, if_pos e_]; done) | (rw [if_neg n2_, if_neg n4_, if_pos e_]; rfl)) ?_
    refine g_wsc (mw q a ((m_s v), (m_held v), (m_aside v), (m_before v), (m_untried v), (m_isHeld v), (m_tape v), (m_taped v), (m_token v), (m_from v), (m_to v), (m_value v), (m_isWrong v), (m_heard v), (m_isMoved v), (m_rows v), (m_rowN v), (m_sortOf v), (m_sizeOf v), (m_numbers v), (m_holdsWhat v), (m_holdsWhich v), (m_holdsMany v), ((aCo (m_actN v) kd x ((m_bodies v), c0)).2.1), (nI (aCo (m_actN v) kd x ((m_bodies v), c0)).2.2), (m_actKind v), (m_actN v), (m_actA v), (m_isParted v))) (by unfold aCo; first | (rw [if_neg n2_, if_neg n4_, if_pos e_]; done) | (rw [if_neg n2_, if_neg n4_, if_pos e_]; rfl)) ?_
    exact g_iret C () hr dX5_coughs_65 (Nat.le_of_ble_eq_true rfl) (Nat.le_of_ble_eq_true rfl) rfl (by unfold aCo; first | (rw [if_neg n2_, if_neg n4_, if_pos e_]; done) | (rw [if_neg n2_, if_neg n4_, if_pos e_]; rfl))
  by_cases s_4_4 : (nI kd) = 4
  · refine g_tin C 38 dX5_coughs_4 (by rw [s_4_4]; decide) (by rw [s_4_4]; decide) (by rw [s_4_4]; rfl) rfl ?_
    have e_ : kd = 4 := (nI_eq (b := 4) (by omega) (by omega)).mp s_4_4
    have n2_ : ¬ kd = 2 := by omega
    refine g_aloadn C dX5_coughs_38 0 rfl rfl ?_
    refine g_bipush C 40 dX5_coughs_39 (by decide) ?_
    refine g_callAv C (rd_V C (k_X5_runs l D q tt a v c0 40 hc (by first | assumption | omega)) gX5_coughs_X5_runs rfl rfl rfl 1 ok_X5_runs rfl 0 rfl rfl (rest := []) rfl rfl (Nat.le_of_ble_eq_true rfl) dX5_coughs_41 ⟨(Nat.le_of_ble_eq_true rfl), (Nat.le_of_ble_eq_true rfl)⟩ ⟨(Nat.le_of_ble_eq_true rfl), (Nat.le_of_ble_eq_true rfl)⟩) (fun _ h_41 => ?_)
    refine g_iconst C 0 dX5_coughs_44 (by decide) ?_
    refine g_aloadn C dX5_coughs_45 0 rfl rfl ?_
    refine g_iloadn C dX5_coughs_46 1 rfl rfl ?_
    refine g_callAi C (rd_V C (k_X5_coughsOfHand l D q tt a ((m_s v), (m_held v), (m_aside v), (m_before v), (m_untried v), (m_isHeld v), (m_tape v), (m_taped v), (m_token v), (m_from v), (m_to v), (m_value v), (m_isWrong v), (m_heard v), (m_isMoved v), (m_rows v), (m_rowN v), (m_sortOf v), (m_sizeOf v), (m_numbers v), (m_holdsWhat v), (m_holdsWhich v), (m_holdsMany v), (noB (m_bodies v) c0 40), (nI (noC c0)), (m_actKind v), (m_actN v), (m_actA v), (m_isParted v)) (noC c0) x rfl (noC_le hc30)) gX5_coughs_X5_coughsOfHand rfl rfl rfl 1 ok_X5_coughsOfHand rfl 0 rfl rfl (rest := [.int 0]) rfl rfl (Nat.le_of_ble_eq_true rfl) dX5_coughs_47 ⟨(Nat.le_of_ble_eq_true rfl), (Nat.le_of_ble_eq_true rfl)⟩ ⟨(Nat.le_of_ble_eq_true rfl), (Nat.le_of_ble_eq_true rfl)⟩) (fun r_47 _ h_47 => ?_)
    obtain rfl := h_47
    refine g_wsc (mw q a ((m_s v), (m_held v), (m_aside v), (m_before v), (m_untried v), (m_isHeld v), (m_tape v), (m_taped v), (m_token v), (m_from v), (m_to v), (m_value v), (m_isWrong v), (m_heard v), (m_isMoved v), (m_rows v), (m_rowN v), (m_sortOf v), (m_sizeOf v), (m_numbers v), (m_holdsWhat v), (m_holdsWhich v), (m_holdsMany v), ((a30 (m_actN v) x ((noB (m_bodies v) c0 40), (noC c0))).2.1), (nI (a30 (m_actN v) x ((noB (m_bodies v) c0 40), (noC c0))).2.2), (m_actKind v), (m_actN v), (m_actA v), (m_isParted v))) rfl ?_
    refine g_topci ((a30 (m_actN v) x ((noB (m_bodies v) c0 40), (noC c0))).1) rfl ?_
    refine g_isub C dX5_coughs_50 ?_
    refine g_wsc (mw q a ((m_s v), (m_held v), (m_aside v), (m_before v), (m_untried v), (m_isHeld v), (m_tape v), (m_taped v), (m_token v), (m_from v), (m_to v), (m_value v), (m_isWrong v), (m_heard v), (m_isMoved v), (m_rows v), (m_rowN v), (m_sortOf v), (m_sizeOf v), (m_numbers v), (m_holdsWhat v), (m_holdsWhich v), (m_holdsMany v), ((aCo (m_actN v) kd x ((m_bodies v), c0)).2.1), (nI (a30 (m_actN v) x ((noB (m_bodies v) c0 40), (noC c0))).2.2), (m_actKind v), (m_actN v), (m_actA v), (m_isParted v))) (by unfold aCo; first | (rw [if_neg n2_, if_pos e_]; done) | (rw [if_neg n2_, if_pos e_]; rfl)) ?_
    refine g_wsc (mw q a ((m_s v), (m_held v), (m_aside v), (m_before v), (m_untried v), (m_isHeld v), (m_tape v), (m_taped v), (m_token v), (m_from v), (m_to v), (m_value v), (m_isWrong v), (m_heard v), (m_isMoved v), (m_rows v), (m_rowN v), (m_sortOf v), (m_sizeOf v), (m_numbers v), (m_holdsWhat v), (m_holdsWhich v), (m_holdsMany v), ((aCo (m_actN v) kd x ((m_bodies v), c0)).2.1), (nI (aCo (m_actN v) kd x ((m_bodies v), c0)).2.2), (m_actKind v), (m_actN v), (m_actA v), (m_isParted v))) (by unfold aCo; first | (rw [if_neg n2_, if_pos e_]; done) | (rw [if_neg n2_, if_pos e_]; rfl)) ?_
    exact g_iret C () hr dX5_coughs_51 (Nat.le_of_ble_eq_true rfl) (Nat.le_of_ble_eq_true rfl) rfl (by unfold aCo; first | (rw [if_neg n2_, if_pos e_]; done) | (rw [if_neg n2_, if_pos e_]; rfl))
  have ns_4_2 := lv_neT s_4_2 (a := 2) (by decide)
  have ns_4_3 := lv_neT s_4_3 (a := 3) (by decide)
  have ns_4_4 := lv_neT s_4_4 (a := 4) (by decide)
  refine g_tout C 66 dX5_coughs_4 (by omega) rfl ?_
  have n2_ : ¬ kd = 2 := fun z => s_4_2 (by rw [z]; rfl)
  have n4_ : ¬ kd = 4 := fun z => s_4_4 (by rw [z]; rfl)
  have n3_ : ¬ kd = 3 := fun z => s_4_3 (by rw [z]; rfl)
  refine g_aloadn C dX5_coughs_66 0 rfl rfl ?_
  refine g_iloadn C dX5_coughs_67 1 rfl rfl ?_
  refine g_callAi C (rd_V C (k_X5_coughsPlain l D q tt a v c0 x hc hc30) gX5_coughs_X5_coughsPlain rfl rfl rfl 1 ok_X5_coughsPlain rfl 0 rfl rfl (rest := []) rfl rfl (Nat.le_of_ble_eq_true rfl) dX5_coughs_68 ⟨(Nat.le_of_ble_eq_true rfl), (Nat.le_of_ble_eq_true rfl)⟩ ⟨(Nat.le_of_ble_eq_true rfl), (Nat.le_of_ble_eq_true rfl)⟩) (fun r_68 _ h_68 => ?_)
  obtain rfl := h_68
  refine g_wsc (mw q a ((m_s v), (m_held v), (m_aside v), (m_before v), (m_untried v), (m_isHeld v), (m_tape v), (m_taped v), (m_token v), (m_from v), (m_to v), (m_value v), (m_isWrong v), (m_heard v), (m_isMoved v), (m_rows v), (m_rowN v), (m_sortOf v), (m_sizeOf v), (m_numbers v), (m_holdsWhat v), (m_holdsWhich v), (m_holdsMany v), ((aCo (m_actN v) kd x ((m_bodies v), c0)).2.1), (nI (a10 (m_actN v) x ((m_bodies v), c0)).2.2), (m_actKind v), (m_actN v), (m_actA v), (m_isParted v))) (by unfold aCo; first | (rw [if_neg n2_, if_neg n4_, if_neg n3_]; done) | (rw [if_neg n2_, if_neg n4_, if_neg n3_]; rfl)) ?_
  refine g_wsc (mw q a ((m_s v), (m_held v), (m_aside v), (m_before v), (m_untried v), (m_isHeld v), (m_tape v), (m_taped v), (m_token v), (m_from v), (m_to v), (m_value v), (m_isWrong v), (m_heard v), (m_isMoved v), (m_rows v), (m_rowN v), (m_sortOf v), (m_sizeOf v), (m_numbers v), (m_holdsWhat v), (m_holdsWhich v), (m_holdsMany v), ((aCo (m_actN v) kd x ((m_bodies v), c0)).2.1), (nI (aCo (m_actN v) kd x ((m_bodies v), c0)).2.2), (m_actKind v), (m_actN v), (m_actA v), (m_isParted v))) (by unfold aCo; first | (rw [if_neg n2_, if_neg n4_, if_neg n3_]; done) | (rw [if_neg n2_, if_neg n4_, if_neg n3_]; rfl)) ?_
  exact g_iret C () hr dX5_coughs_71 (Nat.le_of_ble_eq_true rfl) (Nat.le_of_ble_eq_true rfl) rfl (by unfold aCo; first | (rw [if_neg n2_, if_neg n4_, if_neg n3_]; done) | (rw [if_neg n2_, if_neg n4_, if_neg n3_]; rfl))

set_option maxRecDepth 100000 in
set_option maxHeartbeats 4000000 in
theorem k_X5_laughsPlain (l : Launch) (D : va_G) (q : Nat → ClassId) (tt : Nat → Nat) (a : Nat → Nat) (v : MC) (c0 : Nat) (kd : Nat) (x : Int32) (hc : (m_ran v) = nI c0) (hc30 : c0 ≤ 30) (hkd : (m_actKind v) = nI kd) (hk5 : kd ≤ 5) : MI l D q tt yX5_laughsPlain wsX5_laughsPlain ({ frames := 4, cells := 0, slots := 0, locals := 84 } : Room) [.ref (a 0), .int x] (mw q a v) (fun (r : Int32) (u : Unit) => r = (a11 (m_actN v) (m_actA v) kd x ((m_bodies v), c0)).1) (fun (_ : Unit) => (mw q a ((m_s v), (m_held v), (m_aside v), (m_before v), (m_untried v), (m_isHeld v), (m_tape v), (m_taped v), (m_token v), (m_from v), (m_to v), (m_value v), (m_isWrong v), (m_heard v), (m_isMoved v), (m_rows v), (m_rowN v), (m_sortOf v), (m_sizeOf v), (m_numbers v), (m_holdsWhat v), (m_holdsWhich v), (m_holdsMany v), ((a11 (m_actN v) (m_actA v) kd x ((m_bodies v), c0)).2.1), (nI (a11 (m_actN v) (m_actA v) kd x ((m_bodies v), c0)).2.2), (m_actKind v), (m_actN v), (m_actA v), (m_isParted v)))) 0 0 := by
  refine MI.of RX5 [(0, .ref (a 0)), (1, .int x)] (by decide) rfl rfl (Nat.le_of_ble_eq_true rfl) rfl ?_
  intro p e s m args below meth c A C hr hnm
  have w_0 : ∀ w ∈ u_ws RX5 TX5 29, w ∈ wsX5_laughsPlain := by decide +kernel
  have w_1 : Cond.fieldLink RX5 310 (TX5 27).1 (TX5 27).2.1 (TX5 27).2.2.1 ∈ wsX5_laughsPlain := by decide +kernel
  refine g_aloadn C dX5_laughsPlain_0 0 rfl rfl ?_
  refine g_bipush C 11 dX5_laughsPlain_1 (by decide) ?_
  refine g_callAv C (rd_V C (k_X5_runs l D q tt a v c0 11 hc (by first | assumption | omega)) gX5_laughsPlain_X5_runs rfl rfl rfl 1 ok_X5_runs rfl 0 rfl rfl (rest := []) rfl rfl (Nat.le_of_ble_eq_true rfl) dX5_laughsPlain_3 ⟨(Nat.le_of_ble_eq_true rfl), (Nat.le_of_ble_eq_true rfl)⟩ ⟨(Nat.le_of_ble_eq_true rfl), (Nat.le_of_ble_eq_true rfl)⟩) (fun _ h_3 => ?_)
  refine g_aloadn C dX5_laughsPlain_6 0 rfl rfl ?_
  refine g_iloadn C dX5_laughsPlain_7 1 rfl rfl ?_
  refine g_callAi C (rd_V C (k_X5_coughs l D q tt a ((m_s v), (m_held v), (m_aside v), (m_before v), (m_untried v), (m_isHeld v), (m_tape v), (m_taped v), (m_token v), (m_from v), (m_to v), (m_value v), (m_isWrong v), (m_heard v), (m_isMoved v), (m_rows v), (m_rowN v), (m_sortOf v), (m_sizeOf v), (m_numbers v), (m_holdsWhat v), (m_holdsWhich v), (m_holdsMany v), (noB (m_bodies v) c0 11), (nI (noC c0)), (m_actKind v), (m_actN v), (m_actA v), (m_isParted v)) (noC c0) kd x rfl (noC_le hc30) hkd hk5) gX5_laughsPlain_X5_coughs rfl rfl rfl 1 ok_X5_coughs rfl 0 rfl rfl (rest := []) rfl rfl (Nat.le_of_ble_eq_true rfl) dX5_laughsPlain_8 ⟨(Nat.le_of_ble_eq_true rfl), (Nat.le_of_ble_eq_true rfl)⟩ ⟨(Nat.le_of_ble_eq_true rfl), (Nat.le_of_ble_eq_true rfl)⟩) (fun r_8 _ h_8 => ?_)
  obtain rfl := h_8
  refine g_wsc (mw q a ((m_s v), (m_held v), (m_aside v), (m_before v), (m_untried v), (m_isHeld v), (m_tape v), (m_taped v), (m_token v), (m_from v), (m_to v), (m_value v), (m_isWrong v), (m_heard v), (m_isMoved v), (m_rows v), (m_rowN v), (m_sortOf v), (m_sizeOf v), (m_numbers v), (m_holdsWhat v), (m_holdsWhich v), (m_holdsMany v), ((aCo (m_actN v) kd x ((noB (m_bodies v) c0 11), (noC c0))).2.1), (nI (aCo (m_actN v) kd x ((noB (m_bodies v) c0 11), (noC c0))).2.2), (m_actKind v), (m_actN v), (m_actA v), (m_isParted v))) rfl ?_
  refine g_topci ((aCo (m_actN v) kd x ((noB (m_bodies v) c0 11), (noC c0))).1) rfl ?_
  refine g_iconst C 2 dX5_laughsPlain_11 (by decide) ?_
  refine g_imul C dX5_laughsPlain_12 ?_
  refine g_aloadn C dX5_laughsPlain_13 0 rfl rfl ?_
  refine g_get C fx5 w_0 0 27 (v := .int (m_actA v)) rfl (by decide) w_1 rfl dX5_laughsPlain_14 ?_
  refine g_iadd C dX5_laughsPlain_17 ?_
  exact g_iret C () hr dX5_laughsPlain_18 (Nat.le_of_ble_eq_true rfl) (Nat.le_of_ble_eq_true rfl) rfl (rfl)

set_option maxRecDepth 100000 in
set_option maxHeartbeats 4000000 in
theorem k_X5_laughs (l : Launch) (D : va_G) (q : Nat → ClassId) (tt : Nat → Nat) (a : Nat → Nat) (v : MC) (c0 : Nat) (kd : Nat) (x : Int32) (hc : (m_ran v) = nI c0) (hc30 : c0 ≤ 30) (hkd : (m_actKind v) = nI kd) (hk5 : kd ≤ 5) : MI l D q tt yX5_laughs wsX5_laughs ({ frames := 5, cells := 0, slots := 0, locals := 105 } : Room) [.ref (a 0), .int x] (mw q a v) (fun (r : Int32) (u : Unit) => r = (aLa (m_actN v) (m_actA v) kd x ((m_bodies v), c0)).1) (fun (_ : Unit) => (mw q a ((m_s v), (m_held v), (m_aside v), (m_before v), (m_untried v), (m_isHeld v), (m_tape v), (m_taped v), (m_token v), (m_from v), (m_to v), (m_value v), (m_isWrong v), (m_heard v), (m_isMoved v), (m_rows v), (m_rowN v), (m_sortOf v), (m_sizeOf v), (m_numbers v), (m_holdsWhat v), (m_holdsWhich v), (m_holdsMany v), ((aLa (m_actN v) (m_actA v) kd x ((m_bodies v), c0)).2.1), (nI (aLa (m_actN v) (m_actA v) kd x ((m_bodies v), c0)).2.2), (m_actKind v), (m_actN v), (m_actA v), (m_isParted v)))) 0 0 := by
  refine MI.of RX5 [(0, .ref (a 0)), (1, .int x)] (by decide) rfl rfl (Nat.le_of_ble_eq_true rfl) rfl ?_
  intro p e s m args below meth c A C hr hnm
  have w_0 : ∀ w ∈ u_ws RX5 TX5 29, w ∈ wsX5_laughs := by decide +kernel
  have w_1 : Cond.fieldLink RX5 301 (TX5 25).1 (TX5 25).2.1 (TX5 25).2.2.1 ∈ wsX5_laughs := by decide +kernel
  have w_2 : Cond.fieldLink RX5 310 (TX5 27).1 (TX5 27).2.1 (TX5 27).2.2.1 ∈ wsX5_laughs := by decide +kernel
  refine g_aloadn C dX5_laughs_0 0 rfl rfl ?_
  refine g_get C fx5 w_0 0 25 (v := .int (m_actKind v)) rfl (by decide) w_1 rfl dX5_laughs_1 ?_
  refine g_topci (nI kd) (hkd) ?_
  refine g_iconst C 1 dX5_laughs_4 (by decide) ?_
  refine g_icmpN_eq C 16 (kd) (1) dX5_laughs_5 rfl (by omega) (by omega) (fun c_5 => ?_) (fun c_5 => ?_)
  · have e_ : kd = 1 ∨ kd = 3 := by omega
    refine g_aloadn C dX5_laughs_16 0 rfl rfl ?_
    refine g_bipush C 20 dX5_laughs_17 (by decide) ?_
    refine g_callAv C (rd_V C (k_X5_runs l D q tt a v c0 20 hc (by first | assumption | omega)) gX5_laughs_X5_runs rfl rfl rfl 1 ok_X5_runs rfl 0 rfl rfl (rest := []) rfl rfl (Nat.le_of_ble_eq_true rfl) dX5_laughs_19 ⟨(Nat.le_of_ble_eq_true rfl), (Nat.le_of_ble_eq_true rfl)⟩ ⟨(Nat.le_of_ble_eq_true rfl), (Nat.le_of_ble_eq_true rfl)⟩) (fun _ h_19 => ?_)
    refine g_aloadn C dX5_laughs_22 0 rfl rfl ?_
    refine g_iloadn C dX5_laughs_23 1 rfl rfl ?_
    refine g_callAi C (rd_V C (k_X5_laughsPlain l D q tt a ((m_s v), (m_held v), (m_aside v), (m_before v), (m_untried v), (m_isHeld v), (m_tape v), (m_taped v), (m_token v), (m_from v), (m_to v), (m_value v), (m_isWrong v), (m_heard v), (m_isMoved v), (m_rows v), (m_rowN v), (m_sortOf v), (m_sizeOf v), (m_numbers v), (m_holdsWhat v), (m_holdsWhich v), (m_holdsMany v), (noB (m_bodies v) c0 20), (nI (noC c0)), (m_actKind v), (m_actN v), (m_actA v), (m_isParted v)) (noC c0) kd x rfl (noC_le hc30) hkd hk5) gX5_laughs_X5_laughsPlain rfl rfl rfl 1 ok_X5_laughsPlain rfl 0 rfl rfl (rest := []) rfl rfl (Nat.le_of_ble_eq_true rfl) dX5_laughs_24 ⟨(Nat.le_of_ble_eq_true rfl), (Nat.le_of_ble_eq_true rfl)⟩ ⟨(Nat.le_of_ble_eq_true rfl), (Nat.le_of_ble_eq_true rfl)⟩) (fun r_24 _ h_24 => ?_)
    obtain rfl := h_24
    refine g_wsc (mw q a ((m_s v), (m_held v), (m_aside v), (m_before v), (m_untried v), (m_isHeld v), (m_tape v), (m_taped v), (m_token v), (m_from v), (m_to v), (m_value v), (m_isWrong v), (m_heard v), (m_isMoved v), (m_rows v), (m_rowN v), (m_sortOf v), (m_sizeOf v), (m_numbers v), (m_holdsWhat v), (m_holdsWhich v), (m_holdsMany v), ((a11 (m_actN v) (m_actA v) kd x ((noB (m_bodies v) c0 20), (noC c0))).2.1), (nI (a11 (m_actN v) (m_actA v) kd x ((noB (m_bodies v) c0 20), (noC c0))).2.2), (m_actKind v), (m_actN v), (m_actA v), (m_isParted v))) rfl ?_
    refine g_topci ((a11 (m_actN v) (m_actA v) kd x ((noB (m_bodies v) c0 20), (noC c0))).1) rfl ?_
    refine g_bipush C 8 dX5_laughs_27 (by decide) ?_
    refine g_isub C dX5_laughs_29 ?_
    refine g_wsc (mw q a ((m_s v), (m_held v), (m_aside v), (m_before v), (m_untried v), (m_isHeld v), (m_tape v), (m_taped v), (m_token v), (m_from v), (m_to v), (m_value v), (m_isWrong v), (m_heard v), (m_isMoved v), (m_rows v), (m_rowN v), (m_sortOf v), (m_sizeOf v), (m_numbers v), (m_holdsWhat v), (m_holdsWhich v), (m_holdsMany v), ((aLa (m_actN v) (m_actA v) kd x ((m_bodies v), c0)).2.1), (nI (a11 (m_actN v) (m_actA v) kd x ((noB (m_bodies v) c0 20), (noC c0))).2.2), (m_actKind v), (m_actN v), (m_actA v), (m_isParted v))) (by unfold aLa; first | (rw [if_pos e_]; done) | (rw [if_pos e_]; rfl)) ?_
    refine g_wsc (mw q a ((m_s v), (m_held v), (m_aside v), (m_before v), (m_untried v), (m_isHeld v), (m_tape v), (m_taped v), (m_token v), (m_from v), (m_to v), (m_value v), (m_isWrong v), (m_heard v), (m_isMoved v), (m_rows v), (m_rowN v), (m_sortOf v), (m_sizeOf v), (m_numbers v), (m_holdsWhat v), (m_holdsWhich v), (m_holdsMany v), ((aLa (m_actN v) (m_actA v) kd x ((m_bodies v), c0)).2.1), (nI (aLa (m_actN v) (m_actA v) kd x ((m_bodies v), c0)).2.2), (m_actKind v), (m_actN v), (m_actA v), (m_isParted v))) (by unfold aLa; first | (rw [if_pos e_]; done) | (rw [if_pos e_]; rfl)) ?_
    exact g_iret C () hr dX5_laughs_30 (Nat.le_of_ble_eq_true rfl) (Nat.le_of_ble_eq_true rfl) rfl (by unfold aLa; first | (rw [if_pos e_]; done) | (rw [if_pos e_]; rfl))
  · refine g_aloadn C dX5_laughs_8 0 rfl rfl ?_
    refine g_get C fx5 w_0 0 25 (v := .int (m_actKind v)) rfl (by decide) w_1 rfl dX5_laughs_9 ?_
    refine g_topci (nI kd) (hkd) ?_
    refine g_iconst C 3 dX5_laughs_12 (by decide) ?_
    refine g_icmpN_ne C 31 (kd) (3) dX5_laughs_13 rfl (by omega) (by omega) (fun c_13 => ?_) (fun c_13 => ?_)
    · refine g_aloadn C dX5_laughs_31 0 rfl rfl ?_
      refine g_get C fx5 w_0 0 25 (v := .int (m_actKind v)) rfl (by decide) w_1 rfl dX5_laughs_32 ?_
      refine g_topci (nI kd) (hkd) ?_
      refine g_iconst C 4 dX5_laughs_35 (by decide) ?_
      refine g_icmpN_ne C 62 (kd) (4) dX5_laughs_36 rfl (by omega) (by omega) (fun c_36 => ?_) (fun c_36 => ?_)
      · have n13_ : ¬ (kd = 1 ∨ kd = 3) := by omega
        have n4_ : ¬ kd = 4 := by omega
        refine g_aloadn C dX5_laughs_62 0 rfl rfl ?_
        refine g_iloadn C dX5_laughs_63 1 rfl rfl ?_
        refine g_callAi C (rd_V C (k_X5_laughsPlain l D q tt a v c0 kd x hc hc30 hkd hk5) gX5_laughs_X5_laughsPlain rfl rfl rfl 1 ok_X5_laughsPlain rfl 0 rfl rfl (rest := []) rfl rfl (Nat.le_of_ble_eq_true rfl) dX5_laughs_64 ⟨(Nat.le_of_ble_eq_true rfl), (Nat.le_of_ble_eq_true rfl)⟩ ⟨(Nat.le_of_ble_eq_true rfl), (Nat.le_of_ble_eq_true rfl)⟩) (fun r_64 _ h_64 => ?_)
        obtain rfl := h_64
        refine g_wsc (mw q a ((m_s v), (m_held v), (m_aside v), (m_before v), (m_untried v), (m_isHeld v), (m_tape v), (m_taped v), (m_token v), (m_from v), (m_to v), (m_value v), (m_isWrong v), (m_heard v), (m_isMoved v), (m_rows v), (m_rowN v), (m_sortOf v), (m_sizeOf v), (m_numbers v), (m_holdsWhat v), (m_holdsWhich v), (m_holdsMany v), ((aLa (m_actN v) (m_actA v) kd x ((m_bodies v), c0)).2.1), (nI (a11 (m_actN v) (m_actA v) kd x ((m_bodies v), c0)).2.2), (m_actKind v), (m_actN v), (m_actA v), (m_isParted v))) (by unfold aLa; first | (rw [if_neg n13_, if_neg n4_]; done) | (rw [if_neg n13_, if_neg n4_]; rfl)) ?_
        refine g_wsc (mw q a ((m_s v), (m_held v), (m_aside v), (m_before v), (m_untried v), (m_isHeld v), (m_tape v), (m_taped v), (m_token v), (m_from v), (m_to v), (m_value v), (m_isWrong v), (m_heard v), (m_isMoved v), (m_rows v), (m_rowN v), (m_sortOf v), (m_sizeOf v), (m_numbers v), (m_holdsWhat v), (m_holdsWhich v), (m_holdsMany v), ((aLa (m_actN v) (m_actA v) kd x ((m_bodies v), c0)).2.1), (nI (aLa (m_actN v) (m_actA v) kd x ((m_bodies v), c0)).2.2), (m_actKind v), (m_actN v), (m_actA v), (m_isParted v))) (by unfold aLa; first | (rw [if_neg n13_, if_neg n4_]; done) | (rw [if_neg n13_, if_neg n4_]; rfl)) ?_
        exact g_iret C () hr dX5_laughs_67 (Nat.le_of_ble_eq_true rfl) (Nat.le_of_ble_eq_true rfl) rfl (by unfold aLa; first | (rw [if_neg n13_, if_neg n4_]; done) | (rw [if_neg n13_, if_neg n4_]; rfl))
      · have n13_ : ¬ (kd = 1 ∨ kd = 3) := by omega
        have e4_ : kd = 4 := by omega
        refine g_aloadn C dX5_laughs_39 0 rfl rfl ?_
        refine g_bipush C 41 dX5_laughs_40 (by decide) ?_
        refine g_callAv C (rd_V C (k_X5_runs l D q tt a v c0 41 hc (by first | assumption | omega)) gX5_laughs_X5_runs rfl rfl rfl 1 ok_X5_runs rfl 0 rfl rfl (rest := []) rfl rfl (Nat.le_of_ble_eq_true rfl) dX5_laughs_42 ⟨(Nat.le_of_ble_eq_true rfl), (Nat.le_of_ble_eq_true rfl)⟩ ⟨(Nat.le_of_ble_eq_true rfl), (Nat.le_of_ble_eq_true rfl)⟩) (fun _ h_42 => ?_)
        refine g_aloadn C dX5_laughs_45 0 rfl rfl ?_
        refine g_iloadn C dX5_laughs_46 1 rfl rfl ?_
        refine g_callAi C (rd_V C (k_X5_laughsPlain l D q tt a ((m_s v), (m_held v), (m_aside v), (m_before v), (m_untried v), (m_isHeld v), (m_tape v), (m_taped v), (m_token v), (m_from v), (m_to v), (m_value v), (m_isWrong v), (m_heard v), (m_isMoved v), (m_rows v), (m_rowN v), (m_sortOf v), (m_sizeOf v), (m_numbers v), (m_holdsWhat v), (m_holdsWhich v), (m_holdsMany v), (noB (m_bodies v) c0 41), (nI (noC c0)), (m_actKind v), (m_actN v), (m_actA v), (m_isParted v)) (noC c0) kd x rfl (noC_le hc30) hkd hk5) gX5_laughs_X5_laughsPlain rfl rfl rfl 1 ok_X5_laughsPlain rfl 0 rfl rfl (rest := []) rfl rfl (Nat.le_of_ble_eq_true rfl) dX5_laughs_47 ⟨(Nat.le_of_ble_eq_true rfl), (Nat.le_of_ble_eq_true rfl)⟩ ⟨(Nat.le_of_ble_eq_true rfl), (Nat.le_of_ble_eq_true rfl)⟩) (fun r_47 _ h_47 => ?_)
        obtain rfl := h_47
        refine g_wsc (mw q a ((m_s v), (m_held v), (m_aside v), (m_before v), (m_untried v), (m_isHeld v), (m_tape v), (m_taped v), (m_token v), (m_from v), (m_to v), (m_value v), (m_isWrong v), (m_heard v), (m_isMoved v), (m_rows v), (m_rowN v), (m_sortOf v), (m_sizeOf v), (m_numbers v), (m_holdsWhat v), (m_holdsWhich v), (m_holdsMany v), ((a11 (m_actN v) (m_actA v) kd x ((noB (m_bodies v) c0 41), (noC c0))).2.1), (nI (a11 (m_actN v) (m_actA v) kd x ((noB (m_bodies v) c0 41), (noC c0))).2.2), (m_actKind v), (m_actN v), (m_actA v), (m_isParted v))) rfl ?_
        refine g_topci ((a11 (m_actN v) (m_actA v) kd x ((noB (m_bodies v) c0 41), (noC c0))).1) rfl ?_
        refine g_istoren C [(2, .int ((a11 (m_actN v) (m_actA v) kd x ((noB (m_bodies v) c0 41), (noC c0))).1)), (0, .ref (a 0)), (1, .int x)] dX5_laughs_50 rfl (by decide) rfl ?_
        refine g_iloadn C dX5_laughs_51 0 rfl rfl ?_
        refine g_aloadn C dX5_laughs_52 1 rfl rfl ?_
        refine g_aloadn C dX5_laughs_53 1 rfl rfl ?_
        refine g_get C fx5 w_0 0 27 (v := .int (m_actA v)) rfl (by decide) w_2 rfl dX5_laughs_54 ?_
        refine g_callAi C (rd_V C (k_X5_coughs l D q tt a ((m_s v), (m_held v), (m_aside v), (m_before v), (m_untried v), (m_isHeld v), (m_tape v), (m_taped v), (m_token v), (m_from v), (m_to v), (m_value v), (m_isWrong v), (m_heard v), (m_isMoved v), (m_rows v), (m_rowN v), (m_sortOf v), (m_sizeOf v), (m_numbers v), (m_holdsWhat v), (m_holdsWhich v), (m_holdsMany v), ((a11 (m_actN v) (m_actA v) kd x ((noB (m_bodies v) c0 41), (noC c0))).2.1), (nI (a11 (m_actN v) (m_actA v) kd x ((noB (m_bodies v) c0 41), (noC c0))).2.2), (m_actKind v), (m_actN v), (m_actA v), (m_isParted v)) ((a11 (m_actN v) (m_actA v) kd x (noS ((m_bodies v), c0) 41)).2.2) kd (m_actA v) rfl (a11_le (n := (m_actN v)) (a := (m_actA v)) (x := x) (kd := kd) (z := (noS ((m_bodies v), c0) 41)) (noC_le hc30)) hkd hk5) gX5_laughs_X5_coughs rfl rfl rfl 1 ok_X5_coughs rfl 0 rfl rfl (rest := [.int ((a11 (m_actN v) (m_actA v) kd x ((noB (m_bodies v) c0 41), (noC c0))).1)]) rfl rfl (Nat.le_of_ble_eq_true rfl) dX5_laughs_57 ⟨(Nat.le_of_ble_eq_true rfl), (Nat.le_of_ble_eq_true rfl)⟩ ⟨(Nat.le_of_ble_eq_true rfl), (Nat.le_of_ble_eq_true rfl)⟩) (fun r_57 _ h_57 => ?_)
        obtain rfl := h_57
        refine g_wsc (mw q a ((m_s v), (m_held v), (m_aside v), (m_before v), (m_untried v), (m_isHeld v), (m_tape v), (m_taped v), (m_token v), (m_from v), (m_to v), (m_value v), (m_isWrong v), (m_heard v), (m_isMoved v), (m_rows v), (m_rowN v), (m_sortOf v), (m_sizeOf v), (m_numbers v), (m_holdsWhat v), (m_holdsWhich v), (m_holdsMany v), ((aCo (m_actN v) kd (m_actA v) ((a11 (m_actN v) (m_actA v) kd x ((noB (m_bodies v) c0 41), (noC c0))).2.1, ((a11 (m_actN v) (m_actA v) kd x (noS ((m_bodies v), c0) 41)).2.2))).2.1), (nI (aCo (m_actN v) kd (m_actA v) ((a11 (m_actN v) (m_actA v) kd x ((noB (m_bodies v) c0 41), (noC c0))).2.1, ((a11 (m_actN v) (m_actA v) kd x (noS ((m_bodies v), c0) 41)).2.2))).2.2), (m_actKind v), (m_actN v), (m_actA v), (m_isParted v))) rfl ?_
        refine g_topci ((aCo (m_actN v) kd (m_actA v) ((a11 (m_actN v) (m_actA v) kd x ((noB (m_bodies v) c0 41), (noC c0))).2.1, ((a11 (m_actN v) (m_actA v) kd x (noS ((m_bodies v), c0) 41)).2.2))).1) rfl ?_
        refine g_iadd C dX5_laughs_60 ?_
        refine g_wsc (mw q a ((m_s v), (m_held v), (m_aside v), (m_before v), (m_untried v), (m_isHeld v), (m_tape v), (m_taped v), (m_token v), (m_from v), (m_to v), (m_value v), (m_isWrong v), (m_heard v), (m_isMoved v), (m_rows v), (m_rowN v), (m_sortOf v), (m_sizeOf v), (m_numbers v), (m_holdsWhat v), (m_holdsWhich v), (m_holdsMany v), ((aLa (m_actN v) (m_actA v) kd x ((m_bodies v), c0)).2.1), (nI (aCo (m_actN v) kd (m_actA v) ((a11 (m_actN v) (m_actA v) kd x ((noB (m_bodies v) c0 41), (noC c0))).2.1, ((a11 (m_actN v) (m_actA v) kd x (noS ((m_bodies v), c0) 41)).2.2))).2.2), (m_actKind v), (m_actN v), (m_actA v), (m_isParted v))) (by unfold aLa; first | (rw [if_neg n13_, if_pos e4_]; done) | (rw [if_neg n13_, if_pos e4_]; rfl)) ?_
        refine g_wsc (mw q a ((m_s v), (m_held v), (m_aside v), (m_before v), (m_untried v), (m_isHeld v), (m_tape v), (m_taped v), (m_token v), (m_from v), (m_to v), (m_value v), (m_isWrong v), (m_heard v), (m_isMoved v), (m_rows v), (m_rowN v), (m_sortOf v), (m_sizeOf v), (m_numbers v), (m_holdsWhat v), (m_holdsWhich v), (m_holdsMany v), ((aLa (m_actN v) (m_actA v) kd x ((m_bodies v), c0)).2.1), (nI (aLa (m_actN v) (m_actA v) kd x ((m_bodies v), c0)).2.2), (m_actKind v), (m_actN v), (m_actA v), (m_isParted v))) (by unfold aLa; first | (rw [if_neg n13_, if_pos e4_]; done) | (rw [if_neg n13_, if_pos e4_]; rfl)) ?_
        exact g_iret C () hr dX5_laughs_61 (Nat.le_of_ble_eq_true rfl) (Nat.le_of_ble_eq_true rfl) rfl (by unfold aLa; first | (rw [if_neg n13_, if_pos e4_]; done) | (rw [if_neg n13_, if_pos e4_]; rfl))
    · have e_ : kd = 1 ∨ kd = 3 := by omega
      refine g_aloadn C dX5_laughs_16 0 rfl rfl ?_
      refine g_bipush C 20 dX5_laughs_17 (by decide) ?_
      refine g_callAv C (rd_V C (k_X5_runs l D q tt a v c0 20 hc (by first | assumption | omega)) gX5_laughs_X5_runs rfl rfl rfl 1 ok_X5_runs rfl 0 rfl rfl (rest := []) rfl rfl (Nat.le_of_ble_eq_true rfl) dX5_laughs_19 ⟨(Nat.le_of_ble_eq_true rfl), (Nat.le_of_ble_eq_true rfl)⟩ ⟨(Nat.le_of_ble_eq_true rfl), (Nat.le_of_ble_eq_true rfl)⟩) (fun _ h_19 => ?_)
      refine g_aloadn C dX5_laughs_22 0 rfl rfl ?_
      refine g_iloadn C dX5_laughs_23 1 rfl rfl ?_
      refine g_callAi C (rd_V C (k_X5_laughsPlain l D q tt a ((m_s v), (m_held v), (m_aside v), (m_before v), (m_untried v), (m_isHeld v), (m_tape v), (m_taped v), (m_token v), (m_from v), (m_to v), (m_value v), (m_isWrong v), (m_heard v), (m_isMoved v), (m_rows v), (m_rowN v), (m_sortOf v), (m_sizeOf v), (m_numbers v), (m_holdsWhat v), (m_holdsWhich v), (m_holdsMany v), (noB (m_bodies v) c0 20), (nI (noC c0)), (m_actKind v), (m_actN v), (m_actA v), (m_isParted v)) (noC c0) kd x rfl (noC_le hc30) hkd hk5) gX5_laughs_X5_laughsPlain rfl rfl rfl 1 ok_X5_laughsPlain rfl 0 rfl rfl (rest := []) rfl rfl (Nat.le_of_ble_eq_true rfl) dX5_laughs_24 ⟨(Nat.le_of_ble_eq_true rfl), (Nat.le_of_ble_eq_true rfl)⟩ ⟨(Nat.le_of_ble_eq_true rfl), (Nat.le_of_ble_eq_true rfl)⟩) (fun r_24 _ h_24 => ?_)
      obtain rfl := h_24
      refine g_wsc (mw q a ((m_s v), (m_held v), (m_aside v), (m_before v), (m_untried v), (m_isHeld v), (m_tape v), (m_taped v), (m_token v), (m_from v), (m_to v), (m_value v), (m_isWrong v), (m_heard v), (m_isMoved v), (m_rows v), (m_rowN v), (m_sortOf v), (m_sizeOf v), (m_numbers v), (m_holdsWhat v), (m_holdsWhich v), (m_holdsMany v), ((a11 (m_actN v) (m_actA v) kd x ((noB (m_bodies v) c0 20), (noC c0))).2.1), (nI (a11 (m_actN v) (m_actA v) kd x ((noB (m_bodies v) c0 20), (noC c0))).2.2), (m_actKind v), (m_actN v), (m_actA v), (m_isParted v))) rfl ?_
      refine g_topci ((a11 (m_actN v) (m_actA v) kd x ((noB (m_bodies v) c0 20), (noC c0))).1) rfl ?_
      refine g_bipush C 8 dX5_laughs_27 (by decide) ?_
      refine g_isub C dX5_laughs_29 ?_
      refine g_wsc (mw q a ((m_s v), (m_held v), (m_aside v), (m_before v), (m_untried v), (m_isHeld v), (m_tape v), (m_taped v), (m_token v), (m_from v), (m_to v), (m_value v), (m_isWrong v), (m_heard v), (m_isMoved v), (m_rows v), (m_rowN v), (m_sortOf v), (m_sizeOf v), (m_numbers v), (m_holdsWhat v), (m_holdsWhich v), (m_holdsMany v), ((aLa (m_actN v) (m_actA v) kd x ((m_bodies v), c0)).2.1), (nI (a11 (m_actN v) (m_actA v) kd x ((noB (m_bodies v) c0 20), (noC c0))).2.2), (m_actKind v), (m_actN v), (m_actA v), (m_isParted v))) (by unfold aLa; first | (rw [if_pos e_]; done) | (rw [if_pos e_]; rfl)) ?_
      refine g_wsc (mw q a ((m_s v), (m_held v), (m_aside v), (m_before v), (m_untried v), (m_isHeld v), (m_tape v), (m_taped v), (m_token v), (m_from v), (m_to v), (m_value v), (m_isWrong v), (m_heard v), (m_isMoved v), (m_rows v), (m_rowN v), (m_sortOf v), (m_sizeOf v), (m_numbers v), (m_holdsWhat v), (m_holdsWhich v), (m_holdsMany v), ((aLa (m_actN v) (m_actA v) kd x ((m_bodies v), c0)).2.1), (nI (aLa (m_actN v) (m_actA v) kd x ((m_bodies v), c0)).2.2), (m_actKind v), (m_actN v), (m_actA v), (m_isParted v))) (by unfold aLa; first | (rw [if_pos e_]; done) | (rw [if_pos e_]; rfl)) ?_
      exact g_iret C () hr dX5_laughs_30 (Nat.le_of_ble_eq_true rfl) (Nat.le_of_ble_eq_true rfl) rfl (by unfold aLa; first | (rw [if_pos e_]; done) | (rw [if_pos e_]; rfl))

set_option maxRecDepth 100000 in
set_option maxHeartbeats 4000000 in
theorem k_X5_risesPlain (l : Launch) (D : va_G) (q : Nat → ClassId) (tt : Nat → Nat) (a : Nat → Nat) (v : MC) (c0 : Nat) (kd : Nat) (x : Int32) (hc : (m_ran v) = nI c0) (hc30 : c0 ≤ 30) (hkd : (m_actKind v) = nI kd) (hk5 : kd ≤ 5) : MI l D q tt yX5_risesPlain wsX5_risesPlain ({ frames := 6, cells := 0, slots := 0, locals := 127 } : Room) [.ref (a 0), .int x] (mw q a v) (fun (r : Int32) (u : Unit) => r = (a13 (m_actN v) (m_actA v) kd x ((m_bodies v), c0)).1) (fun (_ : Unit) => (mw q a ((m_s v), (m_held v), (m_aside v), (m_before v), (m_untried v), (m_isHeld v), (m_tape v), (m_taped v), (m_token v), (m_from v), (m_to v), (m_value v), (m_isWrong v), (m_heard v), (m_isMoved v), (m_rows v), (m_rowN v), (m_sortOf v), (m_sizeOf v), (m_numbers v), (m_holdsWhat v), (m_holdsWhich v), (m_holdsMany v), ((a13 (m_actN v) (m_actA v) kd x ((m_bodies v), c0)).2.1), (nI (a13 (m_actN v) (m_actA v) kd x ((m_bodies v), c0)).2.2), (m_actKind v), (m_actN v), (m_actA v), (m_isParted v)))) 0 0 := by
  refine MI.of RX5 [(0, .ref (a 0)), (1, .int x)] (by decide) rfl rfl (Nat.le_of_ble_eq_true rfl) rfl ?_
  intro p e s m args below meth c A C hr hnm
  refine g_aloadn C dX5_risesPlain_0 0 rfl rfl ?_
  refine g_bipush C 13 dX5_risesPlain_1 (by decide) ?_
  refine g_callAv C (rd_V C (k_X5_runs l D q tt a v c0 13 hc (by first | assumption | omega)) gX5_risesPlain_X5_runs rfl rfl rfl 1 ok_X5_runs rfl 0 rfl rfl (rest := []) rfl rfl (Nat.le_of_ble_eq_true rfl) dX5_risesPlain_3 ⟨(Nat.le_of_ble_eq_true rfl), (Nat.le_of_ble_eq_true rfl)⟩ ⟨(Nat.le_of_ble_eq_true rfl), (Nat.le_of_ble_eq_true rfl)⟩) (fun _ h_3 => ?_)
  refine g_aloadn C dX5_risesPlain_6 0 rfl rfl ?_
  refine g_iloadn C dX5_risesPlain_7 1 rfl rfl ?_
  refine g_callAi C (rd_V C (k_X5_laughs l D q tt a ((m_s v), (m_held v), (m_aside v), (m_before v), (m_untried v), (m_isHeld v), (m_tape v), (m_taped v), (m_token v), (m_from v), (m_to v), (m_value v), (m_isWrong v), (m_heard v), (m_isMoved v), (m_rows v), (m_rowN v), (m_sortOf v), (m_sizeOf v), (m_numbers v), (m_holdsWhat v), (m_holdsWhich v), (m_holdsMany v), (noB (m_bodies v) c0 13), (nI (noC c0)), (m_actKind v), (m_actN v), (m_actA v), (m_isParted v)) (noC c0) kd x rfl (noC_le hc30) hkd hk5) gX5_risesPlain_X5_laughs rfl rfl rfl 1 ok_X5_laughs rfl 0 rfl rfl (rest := []) rfl rfl (Nat.le_of_ble_eq_true rfl) dX5_risesPlain_8 ⟨(Nat.le_of_ble_eq_true rfl), (Nat.le_of_ble_eq_true rfl)⟩ ⟨(Nat.le_of_ble_eq_true rfl), (Nat.le_of_ble_eq_true rfl)⟩) (fun r_8 _ h_8 => ?_)
  obtain rfl := h_8
  refine g_wsc (mw q a ((m_s v), (m_held v), (m_aside v), (m_before v), (m_untried v), (m_isHeld v), (m_tape v), (m_taped v), (m_token v), (m_from v), (m_to v), (m_value v), (m_isWrong v), (m_heard v), (m_isMoved v), (m_rows v), (m_rowN v), (m_sortOf v), (m_sizeOf v), (m_numbers v), (m_holdsWhat v), (m_holdsWhich v), (m_holdsMany v), ((aLa (m_actN v) (m_actA v) kd x ((noB (m_bodies v) c0 13), (noC c0))).2.1), (nI (aLa (m_actN v) (m_actA v) kd x ((noB (m_bodies v) c0 13), (noC c0))).2.2), (m_actKind v), (m_actN v), (m_actA v), (m_isParted v))) rfl ?_
  refine g_topci ((aLa (m_actN v) (m_actA v) kd x ((noB (m_bodies v) c0 13), (noC c0))).1) rfl ?_
  refine g_bipush C 90 dX5_risesPlain_11 (by decide) ?_
  refine g_ixor C dX5_risesPlain_13 ?_
  exact g_iret C () hr dX5_risesPlain_14 (Nat.le_of_ble_eq_true rfl) (Nat.le_of_ble_eq_true rfl) rfl (rfl)

set_option maxRecDepth 100000 in
set_option maxHeartbeats 4000000 in
theorem k_X5_partsPlain (l : Launch) (D : va_G) (q : Nat → ClassId) (tt : Nat → Nat) (a : Nat → Nat) (v : MC) (c0 : Nat) (x : Int32) (hc : (m_ran v) = nI c0) (hc30 : c0 ≤ 30) (hpz : (m_isParted v) = 0) : MI l D q tt yX5_partsPlain wsX5_partsPlain ({ frames := 1, cells := 0, slots := 0, locals := 21 } : Room) [.ref (a 0), .int x] (mw q a v) (fun (r : Int32) (u : Unit) => r = (a12 (m_actN v) (m_actA v) x ((m_bodies v), c0)).1) (fun (_ : Unit) => (mw q a ((m_s v), (m_held v), (m_aside v), (m_before v), (m_untried v), (m_isHeld v), (m_tape v), (m_taped v), (m_token v), (m_from v), (m_to v), (m_value v), (m_isWrong v), (m_heard v), (m_isMoved v), (m_rows v), (m_rowN v), (m_sortOf v), (m_sizeOf v), (m_numbers v), (m_holdsWhat v), (m_holdsWhich v), (m_holdsMany v), ((a12 (m_actN v) (m_actA v) x ((m_bodies v), c0)).2.1.1), (nI (a12 (m_actN v) (m_actA v) x ((m_bodies v), c0)).2.1.2), (m_actKind v), (m_actN v), (m_actA v), ((a12 (m_actN v) (m_actA v) x ((m_bodies v), c0)).2.2)))) 0 0 := by
  refine MI.of RX5 [(0, .ref (a 0)), (1, .int x)] (by decide) rfl rfl (Nat.le_of_ble_eq_true rfl) rfl ?_
  intro p e s m args below meth c A C hr hnm
  have w_0 : ∀ w ∈ u_ws RX5 TX5 29, w ∈ wsX5_partsPlain := by decide +kernel
  have w_1 : Cond.fieldLink RX5 316 (TX5 28).1 (TX5 28).2.1 (TX5 28).2.2.1 ∈ wsX5_partsPlain := by decide +kernel
  have w_2 : Cond.fieldLink RX5 295 (TX5 26).1 (TX5 26).2.1 (TX5 26).2.2.1 ∈ wsX5_partsPlain := by decide +kernel
  have w_3 : Cond.fieldLink RX5 310 (TX5 27).1 (TX5 27).2.1 (TX5 27).2.2.1 ∈ wsX5_partsPlain := by decide +kernel
  refine g_aloadn C dX5_partsPlain_0 0 rfl rfl ?_
  refine g_bipush C 12 dX5_partsPlain_1 (by decide) ?_
  refine g_callAv C (rd_V C (k_X5_runs l D q tt a v c0 12 hc (by first | assumption | omega)) gX5_partsPlain_X5_runs rfl rfl rfl 1 ok_X5_runs rfl 0 rfl rfl (rest := []) rfl rfl (Nat.le_of_ble_eq_true rfl) dX5_partsPlain_3 ⟨(Nat.le_of_ble_eq_true rfl), (Nat.le_of_ble_eq_true rfl)⟩ ⟨(Nat.le_of_ble_eq_true rfl), (Nat.le_of_ble_eq_true rfl)⟩) (fun _ h_3 => ?_)
  refine g_aloadn C dX5_partsPlain_6 0 rfl rfl ?_
  refine g_aloadn C dX5_partsPlain_7 0 rfl rfl ?_
  refine g_get C fx5 w_0 0 28 (v := .int (m_isParted v)) rfl (by decide) w_1 rfl dX5_partsPlain_8 ?_
  refine g_topci 0 (hpz) ?_
  refine g_if_neF C 25 dX5_partsPlain_11 rfl (by decide) ?_
  refine g_aloadn C dX5_partsPlain_14 0 rfl rfl ?_
  refine g_get C fx5 w_0 0 26 (v := .int (m_actN v)) rfl (by decide) w_2 rfl dX5_partsPlain_15 ?_
  refine g_aloadn C dX5_partsPlain_18 0 rfl rfl ?_
  refine g_get C fx5 w_0 0 27 (v := .int (m_actA v)) rfl (by decide) w_3 rfl dX5_partsPlain_19 ?_
  refine g_icmp_ne C 29 dX5_partsPlain_22 rfl (fun c_22 => ?_) (fun c_22 => ?_)
  · refine g_iconst C 0 dX5_partsPlain_29 (by decide) ?_
    refine g_put C fx5 w_0 0 28 rfl (by decide) w_1 rfl rfl rfl (Nat.le_of_ble_eq_true rfl) dX5_partsPlain_30 (mw q a ((m_s v), (m_held v), (m_aside v), (m_before v), (m_untried v), (m_isHeld v), (m_tape v), (m_taped v), (m_token v), (m_from v), (m_to v), (m_value v), (m_isWrong v), (m_heard v), (m_isMoved v), (m_rows v), (m_rowN v), (m_sortOf v), (m_sizeOf v), (m_numbers v), (m_holdsWhat v), (m_holdsWhich v), (m_holdsMany v), (noB (m_bodies v) c0 12), (nI (noC c0)), (m_actKind v), (m_actN v), (m_actA v), 0)) (by dsimp only [mw, List.set, m_s, m_held, m_aside, m_before, m_untried, m_isHeld, m_tape, m_taped, m_token, m_from, m_to, m_value, m_isWrong, m_heard, m_isMoved, m_rows, m_rowN, m_sortOf, m_sizeOf, m_numbers, m_holdsWhat, m_holdsWhich, m_holdsMany, m_bodies, m_ran, m_actKind, m_actN, m_actA, m_isParted]) ?_
    refine g_aloadn C dX5_partsPlain_33 0 rfl rfl ?_
    refine g_get C fx5 w_0 0 28 (v := .int 0) rfl (by decide) w_1 rfl dX5_partsPlain_34 ?_
    refine g_if_eqT C 44 dX5_partsPlain_37 rfl (by decide) ?_
    refine g_iloadn C dX5_partsPlain_44 1 rfl rfl ?_
    refine g_aloadn C dX5_partsPlain_45 0 rfl rfl ?_
    refine g_get C fx5 w_0 0 27 (v := .int (m_actA v)) rfl (by decide) w_3 rfl dX5_partsPlain_46 ?_
    refine g_aloadn C dX5_partsPlain_49 0 rfl rfl ?_
    refine g_get C fx5 w_0 0 26 (v := .int (m_actN v)) rfl (by decide) w_2 rfl dX5_partsPlain_50 ?_
    refine g_isub C dX5_partsPlain_53 ?_
    refine g_idiv C dX5_partsPlain_54 (fun z => c_22 (i32_sub0 z).symm) ?_
    refine g_wsc (mw q a ((m_s v), (m_held v), (m_aside v), (m_before v), (m_untried v), (m_isHeld v), (m_tape v), (m_taped v), (m_token v), (m_from v), (m_to v), (m_value v), (m_isWrong v), (m_heard v), (m_isMoved v), (m_rows v), (m_rowN v), (m_sortOf v), (m_sizeOf v), (m_numbers v), (m_holdsWhat v), (m_holdsWhich v), (m_holdsMany v), ((a12 (m_actN v) (m_actA v) x ((m_bodies v), c0)).2.1.1), (nI (noC c0)), (m_actKind v), (m_actN v), (m_actA v), 0)) (by unfold a12; first | (rw [if_pos c_22]; done) | (rw [if_pos c_22]; rfl) | (rw [if_neg c_22]; done) | (rw [if_neg c_22]; rfl)) ?_
    refine g_wsc (mw q a ((m_s v), (m_held v), (m_aside v), (m_before v), (m_untried v), (m_isHeld v), (m_tape v), (m_taped v), (m_token v), (m_from v), (m_to v), (m_value v), (m_isWrong v), (m_heard v), (m_isMoved v), (m_rows v), (m_rowN v), (m_sortOf v), (m_sizeOf v), (m_numbers v), (m_holdsWhat v), (m_holdsWhich v), (m_holdsMany v), ((a12 (m_actN v) (m_actA v) x ((m_bodies v), c0)).2.1.1), (nI (a12 (m_actN v) (m_actA v) x ((m_bodies v), c0)).2.1.2), (m_actKind v), (m_actN v), (m_actA v), 0)) (by unfold a12; first | (rw [if_pos c_22]; done) | (rw [if_pos c_22]; rfl) | (rw [if_neg c_22]; done) | (rw [if_neg c_22]; rfl)) ?_
    refine g_wsc (mw q a ((m_s v), (m_held v), (m_aside v), (m_before v), (m_untried v), (m_isHeld v), (m_tape v), (m_taped v), (m_token v), (m_from v), (m_to v), (m_value v), (m_isWrong v), (m_heard v), (m_isMoved v), (m_rows v), (m_rowN v), (m_sortOf v), (m_sizeOf v), (m_numbers v), (m_holdsWhat v), (m_holdsWhich v), (m_holdsMany v), ((a12 (m_actN v) (m_actA v) x ((m_bodies v), c0)).2.1.1), (nI (a12 (m_actN v) (m_actA v) x ((m_bodies v), c0)).2.1.2), (m_actKind v), (m_actN v), (m_actA v), ((a12 (m_actN v) (m_actA v) x ((m_bodies v), c0)).2.2))) (by unfold a12; first | (rw [if_pos c_22]; done) | (rw [if_pos c_22]; rfl) | (rw [if_neg c_22]; done) | (rw [if_neg c_22]; rfl)) ?_
    exact g_iret C () hr dX5_partsPlain_55 (Nat.le_of_ble_eq_true rfl) (Nat.le_of_ble_eq_true rfl) rfl (by unfold a12; first | (rw [if_pos c_22]; done) | (rw [if_pos c_22]; rfl) | (rw [if_neg c_22]; done) | (rw [if_neg c_22]; rfl))
  · refine g_iconst C 1 dX5_partsPlain_25 (by decide) ?_
    refine g_goto C 30 dX5_partsPlain_26 rfl ?_
    refine g_put C fx5 w_0 0 28 rfl (by decide) w_1 rfl rfl rfl (Nat.le_of_ble_eq_true rfl) dX5_partsPlain_30 (mw q a ((m_s v), (m_held v), (m_aside v), (m_before v), (m_untried v), (m_isHeld v), (m_tape v), (m_taped v), (m_token v), (m_from v), (m_to v), (m_value v), (m_isWrong v), (m_heard v), (m_isMoved v), (m_rows v), (m_rowN v), (m_sortOf v), (m_sizeOf v), (m_numbers v), (m_holdsWhat v), (m_holdsWhich v), (m_holdsMany v), (noB (m_bodies v) c0 12), (nI (noC c0)), (m_actKind v), (m_actN v), (m_actA v), 1)) (by dsimp only [mw, List.set, m_s, m_held, m_aside, m_before, m_untried, m_isHeld, m_tape, m_taped, m_token, m_from, m_to, m_value, m_isWrong, m_heard, m_isMoved, m_rows, m_rowN, m_sortOf, m_sizeOf, m_numbers, m_holdsWhat, m_holdsWhich, m_holdsMany, m_bodies, m_ran, m_actKind, m_actN, m_actA, m_isParted]) ?_
    refine g_aloadn C dX5_partsPlain_33 0 rfl rfl ?_
    refine g_get C fx5 w_0 0 28 (v := .int 1) rfl (by decide) w_1 rfl dX5_partsPlain_34 ?_
    refine g_if_eqF C 44 dX5_partsPlain_37 rfl (by decide) ?_
    refine g_iconst C 0 dX5_partsPlain_40 (by decide) ?_
    refine g_goto C 55 dX5_partsPlain_41 rfl ?_
    refine g_wsc (mw q a ((m_s v), (m_held v), (m_aside v), (m_before v), (m_untried v), (m_isHeld v), (m_tape v), (m_taped v), (m_token v), (m_from v), (m_to v), (m_value v), (m_isWrong v), (m_heard v), (m_isMoved v), (m_rows v), (m_rowN v), (m_sortOf v), (m_sizeOf v), (m_numbers v), (m_holdsWhat v), (m_holdsWhich v), (m_holdsMany v), ((a12 (m_actN v) (m_actA v) x ((m_bodies v), c0)).2.1.1), (nI (noC c0)), (m_actKind v), (m_actN v), (m_actA v), 1)) (by unfold a12; first | (rw [if_pos c_22]; done) | (rw [if_pos c_22]; rfl) | (rw [if_neg c_22]; done) | (rw [if_neg c_22]; rfl)) ?_
    refine g_wsc (mw q a ((m_s v), (m_held v), (m_aside v), (m_before v), (m_untried v), (m_isHeld v), (m_tape v), (m_taped v), (m_token v), (m_from v), (m_to v), (m_value v), (m_isWrong v), (m_heard v), (m_isMoved v), (m_rows v), (m_rowN v), (m_sortOf v), (m_sizeOf v), (m_numbers v), (m_holdsWhat v), (m_holdsWhich v), (m_holdsMany v), ((a12 (m_actN v) (m_actA v) x ((m_bodies v), c0)).2.1.1), (nI (a12 (m_actN v) (m_actA v) x ((m_bodies v), c0)).2.1.2), (m_actKind v), (m_actN v), (m_actA v), 1)) (by unfold a12; first | (rw [if_pos c_22]; done) | (rw [if_pos c_22]; rfl) | (rw [if_neg c_22]; done) | (rw [if_neg c_22]; rfl)) ?_
    refine g_wsc (mw q a ((m_s v), (m_held v), (m_aside v), (m_before v), (m_untried v), (m_isHeld v), (m_tape v), (m_taped v), (m_token v), (m_from v), (m_to v), (m_value v), (m_isWrong v), (m_heard v), (m_isMoved v), (m_rows v), (m_rowN v), (m_sortOf v), (m_sizeOf v), (m_numbers v), (m_holdsWhat v), (m_holdsWhich v), (m_holdsMany v), ((a12 (m_actN v) (m_actA v) x ((m_bodies v), c0)).2.1.1), (nI (a12 (m_actN v) (m_actA v) x ((m_bodies v), c0)).2.1.2), (m_actKind v), (m_actN v), (m_actA v), ((a12 (m_actN v) (m_actA v) x ((m_bodies v), c0)).2.2))) (by unfold a12; first | (rw [if_pos c_22]; done) | (rw [if_pos c_22]; rfl) | (rw [if_neg c_22]; done) | (rw [if_neg c_22]; rfl)) ?_
    exact g_iret C () hr dX5_partsPlain_55 (Nat.le_of_ble_eq_true rfl) (Nat.le_of_ble_eq_true rfl) rfl (by unfold a12; first | (rw [if_pos c_22]; done) | (rw [if_pos c_22]; rfl) | (rw [if_neg c_22]; done) | (rw [if_neg c_22]; rfl))

