set_option maxRecDepth 100000 in
set_option maxHeartbeats 4000000 in
theorem k_isIn32 (l : Launch) (D : va_G) (q : Nat → ClassId) (tt : Nat → Nat) (x : Int32) (k1 : Int32) (k2 : Int32) (lo : Int64) (hi : Int64) (h1 : lo = k1.toInt64) (h2 : hi = k2.toInt64) : MI l D q tt yX5_isIn wsX5_isIn ({ frames := 0, cells := 0, slots := 0, locals := 0 } : Room) [.long (x.toInt64), .long lo, .long hi] [] (fun (r : Int32) (u : Unit) => r = (bI (k1 ≤ x ∧ x ≤ k2))) (fun (_ : Unit) => []) 0 0 := by
  refine MI.of RX5 [(0, .long (x.toInt64)), (2, .long lo), (4, .long hi)] (by decide) rfl rfl (Nat.le_of_ble_eq_true rfl) rfl ?_
  intro p e s m args below meth c A C hr hnm
  refine g_lloadn C dX5_isIn_0 0 rfl rfl ?_
  refine g_lloadn C dX5_isIn_1 1 rfl rfl ?_
  refine g_lcmp C dX5_isIn_2 ?_
  refine g_if_lt C 17 dX5_isIn_3 rfl (fun c_3 => ?_) (fun c_3 => ?_)
  · refine g_iconst C 0 dX5_isIn_17 (by decide) ?_
    exact g_zret C () hr rfl dX5_isIn_18 (Nat.le_of_ble_eq_true rfl) (Nat.le_of_ble_eq_true rfl) rfl (by subst h1; subst h2; unfold bI; split <;> rename_i hb_ <;> first | rfl | (exfalso; (try simp only [lg_lt0, lg_gt0, w_le, w_lt] at hb_ c_3); simp only [lg_lt0, lg_gt0, w_le, w_lt, Int32.lt_iff_toInt_lt, Int32.le_iff_toInt_le, ← Int32.toInt_inj, tI_0, tI_1, tI_2, tI_3, tI_4, tI_5, tI_6, tI_7, tI_8, tI_9, tI_10, tI_13, tI_19, tI_20, tI_30, tI_32, tI_40, tI_48, tI_57, tI_59, tI_60, tI_97, tI_99, tI_100, tI_122, tI_200, tI_m1, tI_m2, tI_m3, tI_39] at hb_ c_3 <;> omega))
  · refine g_lloadn C dX5_isIn_6 0 rfl rfl ?_
    refine g_lload C dX5_isIn_7 2 rfl ?_
    refine g_lcmp C dX5_isIn_9 ?_
    refine g_if_gt C 17 dX5_isIn_10 rfl (fun c_10 => ?_) (fun c_10 => ?_)
    · refine g_iconst C 0 dX5_isIn_17 (by decide) ?_
      exact g_zret C () hr rfl dX5_isIn_18 (Nat.le_of_ble_eq_true rfl) (Nat.le_of_ble_eq_true rfl) rfl (by subst h1; subst h2; unfold bI; split <;> rename_i hb_ <;> first | rfl | (exfalso; (try simp only [lg_lt0, lg_gt0, w_le, w_lt] at hb_ c_3 c_10); simp only [lg_lt0, lg_gt0, w_le, w_lt, Int32.lt_iff_toInt_lt, Int32.le_iff_toInt_le, ← Int32.toInt_inj, tI_0, tI_1, tI_2, tI_3, tI_4, tI_5, tI_6, tI_7, tI_8, tI_9, tI_10, tI_13, tI_19, tI_20, tI_30, tI_32, tI_40, tI_48, tI_57, tI_59, tI_60, tI_97, tI_99, tI_100, tI_122, tI_200, tI_m1, tI_m2, tI_m3, tI_39] at hb_ c_3 c_10 <;> omega))
    · refine g_iconst C 1 dX5_isIn_13 (by decide) ?_
      refine g_goto C 18 dX5_isIn_14 rfl ?_
      exact g_zret C () hr rfl dX5_isIn_18 (Nat.le_of_ble_eq_true rfl) (Nat.le_of_ble_eq_true rfl) rfl (by subst h1; subst h2; unfold bI; split <;> rename_i hb_ <;> first | rfl | (exfalso; (try simp only [lg_lt0, lg_gt0, w_le, w_lt] at hb_ c_3 c_10); simp only [lg_lt0, lg_gt0, w_le, w_lt, Int32.lt_iff_toInt_lt, Int32.le_iff_toInt_le, ← Int32.toInt_inj, tI_0, tI_1, tI_2, tI_3, tI_4, tI_5, tI_6, tI_7, tI_8, tI_9, tI_10, tI_13, tI_19, tI_20, tI_30, tI_32, tI_40, tI_48, tI_57, tI_59, tI_60, tI_97, tI_99, tI_100, tI_122, tI_200, tI_m1, tI_m2, tI_m3, tI_39] at hb_ c_3 c_10 <;> omega))

set_option maxRecDepth 100000 in
set_option maxHeartbeats 4000000 in
theorem k_X5_isRoom (l : Launch) (D : va_G) (q : Nat → ClassId) (tt : Nat → Nat) (x : Int32)  : MI l D q tt yX5_isRoom wsX5_isRoom ({ frames := 0, cells := 0, slots := 0, locals := 0 } : Room) [.int x] [] (fun (r : Int32) (u : Unit) => r = (bI (0 ≤ x ∧ x < 8))) (fun (_ : Unit) => []) 0 0 := by
  refine MI.of RX5 [(0, .int x)] (by decide) rfl rfl (Nat.le_of_ble_eq_true rfl) rfl ?_
  intro p e s m args below meth c A C hr hnm
  refine g_iloadn C dX5_isRoom_0 0 rfl rfl ?_
  refine g_if_lt C 14 dX5_isRoom_1 rfl (fun c_1 => ?_) (fun c_1 => ?_)
  · refine g_iconst C 0 dX5_isRoom_14 (by decide) ?_
    exact g_zret C () hr rfl dX5_isRoom_15 (Nat.le_of_ble_eq_true rfl) (Nat.le_of_ble_eq_true rfl) rfl (by unfold bI; split <;> rename_i hb_ <;> first | rfl | (exfalso; (try simp only [lg_lt0, lg_gt0, w_le, w_lt] at hb_ c_1); simp only [lg_lt0, lg_gt0, w_le, w_lt, Int32.lt_iff_toInt_lt, Int32.le_iff_toInt_le, ← Int32.toInt_inj, tI_0, tI_1, tI_2, tI_3, tI_4, tI_5, tI_6, tI_7, tI_8, tI_9, tI_10, tI_13, tI_19, tI_20, tI_30, tI_32, tI_40, tI_48, tI_57, tI_59, tI_60, tI_97, tI_99, tI_100, tI_122, tI_200, tI_m1, tI_m2, tI_m3, tI_39] at hb_ c_1 <;> omega))
  · refine g_iloadn C dX5_isRoom_4 0 rfl rfl ?_
    refine g_bipush C 8 dX5_isRoom_5 (by decide) ?_
    refine g_icmp_ge C 14 dX5_isRoom_7 rfl (fun c_7 => ?_) (fun c_7 => ?_)
    · refine g_iconst C 0 dX5_isRoom_14 (by decide) ?_
      exact g_zret C () hr rfl dX5_isRoom_15 (Nat.le_of_ble_eq_true rfl) (Nat.le_of_ble_eq_true rfl) rfl (by unfold bI; split <;> rename_i hb_ <;> first | rfl | (exfalso; (try simp only [lg_lt0, lg_gt0, w_le, w_lt] at hb_ c_1 c_7); simp only [lg_lt0, lg_gt0, w_le, w_lt, Int32.lt_iff_toInt_lt, Int32.le_iff_toInt_le, ← Int32.toInt_inj, tI_0, tI_1, tI_2, tI_3, tI_4, tI_5, tI_6, tI_7, tI_8, tI_9, tI_10, tI_13, tI_19, tI_20, tI_30, tI_32, tI_40, tI_48, tI_57, tI_59, tI_60, tI_97, tI_99, tI_100, tI_122, tI_200, tI_m1, tI_m2, tI_m3, tI_39] at hb_ c_1 c_7 <;> omega))
    · refine g_iconst C 1 dX5_isRoom_10 (by decide) ?_
      refine g_goto C 15 dX5_isRoom_11 rfl ?_
      exact g_zret C () hr rfl dX5_isRoom_15 (Nat.le_of_ble_eq_true rfl) (Nat.le_of_ble_eq_true rfl) rfl (by unfold bI; split <;> rename_i hb_ <;> first | rfl | (exfalso; (try simp only [lg_lt0, lg_gt0, w_le, w_lt] at hb_ c_1 c_7); simp only [lg_lt0, lg_gt0, w_le, w_lt, Int32.lt_iff_toInt_lt, Int32.le_iff_toInt_le, ← Int32.toInt_inj, tI_0, tI_1, tI_2, tI_3, tI_4, tI_5, tI_6, tI_7, tI_8, tI_9, tI_10, tI_13, tI_19, tI_20, tI_30, tI_32, tI_40, tI_48, tI_57, tI_59, tI_60, tI_97, tI_99, tI_100, tI_122, tI_200, tI_m1, tI_m2, tI_m3, tI_39] at hb_ c_1 c_7 <;> omega))

set_option maxRecDepth 100000 in
set_option maxHeartbeats 4000000 in
theorem k_X5_isOne (l : Launch) (D : va_G) (q : Nat → ClassId) (tt : Nat → Nat) (a : Nat → Nat) (v : MC) (x : Int32)  : MI l D q tt yX5_isOne wsX5_isOne ({ frames := 0, cells := 0, slots := 0, locals := 0 } : Room) [.ref (a 0), .int x] (mw q a v) (fun (r : Int32) (u : Unit) => r = (bI (0 ≤ x ∧ x < ((m_s v) 0)))) (fun (_ : Unit) => (mw q a v)) 0 0 := by
  refine MI.of RX5 [(0, .ref (a 0)), (1, .int x)] (by decide) rfl rfl (Nat.le_of_ble_eq_true rfl) rfl ?_
  intro p e s m args below meth c A C hr hnm
  have w_0 : ∀ w ∈ u_ws RX5 TX5 29, w ∈ wsX5_isOne := by decide +kernel
  have w_1 : Cond.fieldLink RX5 7 (TX5 0).1 (TX5 0).2.1 (TX5 0).2.2.1 ∈ wsX5_isOne := by decide +kernel
  refine g_iloadn C dX5_isOne_0 1 rfl rfl ?_
  refine g_if_lt C 18 dX5_isOne_1 rfl (fun c_1 => ?_) (fun c_1 => ?_)
  · refine g_iconst C 0 dX5_isOne_18 (by decide) ?_
    exact g_zret C () hr rfl dX5_isOne_19 (Nat.le_of_ble_eq_true rfl) (Nat.le_of_ble_eq_true rfl) rfl (by unfold bI; split <;> rename_i hb_ <;> first | rfl | (exfalso; (try simp only [lg_lt0, lg_gt0, w_le, w_lt] at hb_ c_1); simp only [lg_lt0, lg_gt0, w_le, w_lt, Int32.lt_iff_toInt_lt, Int32.le_iff_toInt_le, ← Int32.toInt_inj, tI_0, tI_1, tI_2, tI_3, tI_4, tI_5, tI_6, tI_7, tI_8, tI_9, tI_10, tI_13, tI_19, tI_20, tI_30, tI_32, tI_40, tI_48, tI_57, tI_59, tI_60, tI_97, tI_99, tI_100, tI_122, tI_200, tI_m1, tI_m2, tI_m3, tI_39] at hb_ c_1 <;> omega))
  · refine g_iloadn C dX5_isOne_4 1 rfl rfl ?_
    refine g_aloadn C dX5_isOne_5 0 rfl rfl ?_
    refine g_get C fx5 w_0 0 0 (v := .ref (a 1)) rfl (by decide) w_1 rfl dX5_isOne_6 ?_
    refine g_iconst C 0 dX5_isOne_9 (by decide) ?_
    refine g_iald C 1 (0) (f := (m_s v)) rfl rfl (by omega) (by decide) dX5_isOne_10 ?_
    refine g_icmp_ge C 18 dX5_isOne_11 rfl (fun c_11 => ?_) (fun c_11 => ?_)
    · refine g_iconst C 0 dX5_isOne_18 (by decide) ?_
      exact g_zret C () hr rfl dX5_isOne_19 (Nat.le_of_ble_eq_true rfl) (Nat.le_of_ble_eq_true rfl) rfl (by unfold bI; split <;> rename_i hb_ <;> first | rfl | (exfalso; (try simp only [lg_lt0, lg_gt0, w_le, w_lt] at hb_ c_1 c_11); simp only [lg_lt0, lg_gt0, w_le, w_lt, Int32.lt_iff_toInt_lt, Int32.le_iff_toInt_le, ← Int32.toInt_inj, tI_0, tI_1, tI_2, tI_3, tI_4, tI_5, tI_6, tI_7, tI_8, tI_9, tI_10, tI_13, tI_19, tI_20, tI_30, tI_32, tI_40, tI_48, tI_57, tI_59, tI_60, tI_97, tI_99, tI_100, tI_122, tI_200, tI_m1, tI_m2, tI_m3, tI_39] at hb_ c_1 c_11 <;> omega))
    · refine g_iconst C 1 dX5_isOne_14 (by decide) ?_
      refine g_goto C 19 dX5_isOne_15 rfl ?_
      exact g_zret C () hr rfl dX5_isOne_19 (Nat.le_of_ble_eq_true rfl) (Nat.le_of_ble_eq_true rfl) rfl (by unfold bI; split <;> rename_i hb_ <;> first | rfl | (exfalso; (try simp only [lg_lt0, lg_gt0, w_le, w_lt] at hb_ c_1 c_11); simp only [lg_lt0, lg_gt0, w_le, w_lt, Int32.lt_iff_toInt_lt, Int32.le_iff_toInt_le, ← Int32.toInt_inj, tI_0, tI_1, tI_2, tI_3, tI_4, tI_5, tI_6, tI_7, tI_8, tI_9, tI_10, tI_13, tI_19, tI_20, tI_30, tI_32, tI_40, tI_48, tI_57, tI_59, tI_60, tI_97, tI_99, tI_100, tI_122, tI_200, tI_m1, tI_m2, tI_m3, tI_39] at hb_ c_1 c_11 <;> omega))

set_option maxRecDepth 100000 in
set_option maxHeartbeats 4000000 in
theorem k_X5_its (l : Launch) (D : va_G) (q : Nat → ClassId) (tt : Nat → Nat) (a : Nat → Nat) (v : MC) (o : Nat) (w : Nat) (ho : o < 8) (hw : w < 5) : MI l D q tt yX5_its wsX5_its ({ frames := 0, cells := 0, slots := 0, locals := 0 } : Room) [.ref (a 0), .int (nI o), .int (nI w)] (mw q a v) (fun (r : Int32) (u : Unit) => r = ((m_s v) (7 + 5 * o + w))) (fun (_ : Unit) => (mw q a v)) 0 0 := by
  refine MI.of RX5 [(0, .ref (a 0)), (1, .int (nI o)), (2, .int (nI w))] (by decide) rfl rfl (Nat.le_of_ble_eq_true rfl) rfl ?_
  intro p e s m args below meth c A C hr hnm
  have w_0 : ∀ w ∈ u_ws RX5 TX5 29, w ∈ wsX5_its := by decide +kernel
  have w_1 : Cond.fieldLink RX5 7 (TX5 0).1 (TX5 0).2.1 (TX5 0).2.2.1 ∈ wsX5_its := by decide +kernel
  refine g_aloadn C dX5_its_0 0 rfl rfl ?_
  refine g_get C fx5 w_0 0 0 (v := .ref (a 1)) rfl (by decide) w_1 rfl dX5_its_1 ?_
  refine g_bipush C 7 dX5_its_4 (by decide) ?_
  refine g_iconst C 5 dX5_its_6 (by decide) ?_
  refine g_iloadn C dX5_its_7 1 rfl rfl ?_
  refine g_imul C dX5_its_8 ?_
  refine g_iadd C dX5_its_9 ?_
  refine g_iloadn C dX5_its_10 2 rfl rfl ?_
  refine g_iadd C dX5_its_11 ?_
  refine g_iald C 1 (((7 + (5 * o)) + w)) (f := (m_s v)) rfl (ix_add (ix_add rfl (ix_mul rfl rfl)) rfl) (by omega) (by decide) dX5_its_12 ?_
  exact g_iret C () hr dX5_its_13 (Nat.le_of_ble_eq_true rfl) (Nat.le_of_ble_eq_true rfl) rfl (rfl)

set_option maxRecDepth 100000 in
set_option maxHeartbeats 4000000 in
theorem k_X5_becomes (l : Launch) (D : va_G) (q : Nat → ClassId) (tt : Nat → Nat) (a : Nat → Nat) (v : MC) (k : Nat) (x : Int32) (hk : k < 47) : MI l D q tt yX5_becomes wsX5_becomes ({ frames := 0, cells := 0, slots := 0, locals := 0 } : Room) [.ref (a 0), .int (nI k), .int x] (mw q a v) (fun (r : Int32) (u : Unit) => r = ((m_s v) k)) (fun (_ : Unit) => (mw q a ((upd (m_s v) k x), (m_held v), (m_aside v), (m_before v), (m_untried v), (m_isHeld v), (m_tape v), (m_taped v), (m_token v), (m_from v), (m_to v), (m_value v), (m_isWrong v), (m_heard v), (m_isMoved v), (m_rows v), (m_rowN v), (m_sortOf v), (m_sizeOf v), (m_numbers v), (m_holdsWhat v), (m_holdsWhich v), (m_holdsMany v), (m_bodies v), (m_ran v), (m_actKind v), (m_actN v), (m_actA v), (m_isParted v)))) 0 0 := by
  refine MI.of RX5 [(0, .ref (a 0)), (1, .int (nI k)), (2, .int x)] (by decide) rfl rfl (Nat.le_of_ble_eq_true rfl) rfl ?_
  intro p e s m args below meth c A C hr hnm
  have w_0 : ∀ w ∈ u_ws RX5 TX5 29, w ∈ wsX5_becomes := by decide +kernel
  have w_1 : Cond.fieldLink RX5 7 (TX5 0).1 (TX5 0).2.1 (TX5 0).2.2.1 ∈ wsX5_becomes := by decide +kernel
  refine g_aloadn C dX5_becomes_0 0 rfl rfl ?_
  refine g_get C fx5 w_0 0 0 (v := .ref (a 1)) rfl (by decide) w_1 rfl dX5_becomes_1 ?_
  refine g_iloadn C dX5_becomes_4 1 rfl rfl ?_
  refine g_iald C 1 (k) (f := (m_s v)) rfl rfl (by omega) (by decide) dX5_becomes_5 ?_
  refine g_istoren C [(3, .int ((m_s v) k)), (0, .ref (a 0)), (1, .int (nI k)), (2, .int x)] dX5_becomes_6 rfl (by decide) rfl ?_
  refine g_aloadn C dX5_becomes_7 1 rfl rfl ?_
  refine g_get C fx5 w_0 0 0 (v := .ref (a 1)) rfl (by decide) w_1 rfl dX5_becomes_8 ?_
  refine g_iloadn C dX5_becomes_11 2 rfl rfl ?_
  refine g_iloadn C dX5_becomes_12 3 rfl rfl ?_
  refine g_iast C 1 (k) (f := (m_s v)) rfl rfl (by omega) (by decide) dX5_becomes_13 (mw q a ((upd (m_s v) k x), (m_held v), (m_aside v), (m_before v), (m_untried v), (m_isHeld v), (m_tape v), (m_taped v), (m_token v), (m_from v), (m_to v), (m_value v), (m_isWrong v), (m_heard v), (m_isMoved v), (m_rows v), (m_rowN v), (m_sortOf v), (m_sizeOf v), (m_numbers v), (m_holdsWhat v), (m_holdsWhich v), (m_holdsMany v), (m_bodies v), (m_ran v), (m_actKind v), (m_actN v), (m_actA v), (m_isParted v))) rfl ?_
  refine g_iloadn C dX5_becomes_14 0 rfl rfl ?_
  exact g_iret C () hr dX5_becomes_15 (Nat.le_of_ble_eq_true rfl) (Nat.le_of_ble_eq_true rfl) rfl (rfl)

set_option maxRecDepth 100000 in
set_option maxHeartbeats 4000000 in
theorem k_X5_copyRow (l : Launch) (D : va_G) (q : Nat → ClassId) (tt : Nat → Nat) (a0 : Nat) (a1 : Nat) (f : Nat → Int32) (g : Nat → Int32)  : MV l D q tt yX5_copyRow wsX5_copyRow ({ frames := 0, cells := 0, slots := 0, locals := 0 } : Room) [.ref a0, .ref a1] ([(a0, aI (q 0) 47 f)] ++ ([(a1, aI (q 0) 47 g)])) (fun (u : Unit) => True) (fun (_ : Unit) => ([(a0, aI (q 0) 47 f)] ++ ([(a1, aI (q 0) 47 (cp47 f g))]))) 0 0 := by
  refine MV.of RX5 [(0, .ref a0), (1, .ref a1)] (by decide) rfl rfl (Nat.le_of_ble_eq_true rfl) rfl ?_
  intro p e s m args below meth c A C hr hnm
  refine g_iconst C 0 dX5_copyRow_0 (by decide) ?_
  refine g_istoren C [(2, .int 0), (0, .ref a0), (1, .ref a1)] dX5_copyRow_1 rfl (by decide) rfl ?_
  have J_2 : ∀ (fu : Nat) (i : Nat), 47 - i < fu → (i ≤ 47) → G p l e ({ frames := 0, cells := 0, slots := 0, locals := 0 } : Room) s m args below meth c 3 D A (MQ below (va_Qv (fun (u : Unit) => True) (Bw D A (fun (_ : Unit) => ([(a0, aI (q 0) 47 f)] ++ ([(a1, aI (q 0) 47 (cp47 f g))])))) A) args s 0 0 A) 2 [(0, .ref a0), (1, .ref a1), (2, .int (nI i))] [] ([(a0, aI (q 0) 47 f)] ++ ([(a1, aI (q 0) 47 (cpN f g i))])) 0 0 := by
    intro fu
    induction fu with
    | zero =>
      intro i hfu
      exact absurd hfu (Nat.not_lt_zero _)
    | succ fu ih =>
      intro i hfu hi
      refine g_iloadn C dX5_copyRow_2 2 rfl rfl ?_
      refine g_bipush C 47 dX5_copyRow_3 (by decide) ?_
      refine g_icmpN_ge C 20 (i) (47) dX5_copyRow_5 rfl (by omega) (by omega) (fun c_5 => ?_) (fun c_5 => ?_)
      · refine g_wsc ([(a0, aI (q 0) 47 f)] ++ ([(a1, aI (q 0) 47 (cp47 f g))])) (by have e : i = 47 := (by omega); rw [e]; rfl) ?_
        exact g_vret C () hr dX5_copyRow_20 (Nat.le_of_ble_eq_true rfl) (Nat.le_of_ble_eq_true rfl) rfl (trivial)
      · refine g_aloadn C dX5_copyRow_8 1 rfl rfl ?_
        refine g_iloadn C dX5_copyRow_9 2 rfl rfl ?_
        refine g_aloadn C dX5_copyRow_10 0 rfl rfl ?_
        refine g_iloadn C dX5_copyRow_11 2 rfl rfl ?_
        refine g_iald C 0 (i) (f := f) rfl rfl (by omega) (by decide) dX5_copyRow_12 ?_
        refine g_iast C 1 (i) (f := (cpN f g i)) rfl rfl (by omega) (by decide) dX5_copyRow_13 ([(a0, aI (q 0) 47 f)] ++ ([(a1, aI (q 0) 47 (upd (cpN f g i) i (f i)))])) rfl ?_
        refine g_wsc ([(a0, aI (q 0) 47 f)] ++ ([(a1, aI (q 0) 47 (cpN f g (i + 1)))])) (by rw [cpN_s]) ?_
        refine g_iinc C (nI (i + 1)) [(2, .int (nI (i + 1))), (0, .ref a0), (1, .ref a1)] dX5_copyRow_14 2 rfl (nI_add i 1) (by decide) rfl ?_
        refine g_goto C 2 dX5_copyRow_17 rfl ?_
        refine g_sub [1, 2, 0] (lv' := [(0, .ref a0), (1, .ref a1), (2, .int (nI (i + 1)))]) rfl ?_
        exact ih ((i + 1)) (by omega) (by first | assumption | omega)
  refine g_wsc ([(a0, aI (q 0) 47 f)] ++ ([(a1, aI (q 0) 47 (cpN f g 0))])) (by rw [cpN_0]) ?_
  refine g_sub [1, 2, 0] (lv' := [(0, .ref a0), (1, .ref a1), (2, .int 0)]) rfl ?_
  exact J_2 _ (0) (Nat.lt_succ_self _) (by first | assumption | omega)

set_option maxRecDepth 100000 in
set_option maxHeartbeats 4000000 in
theorem k_X5_size (l : Launch) (D : va_G) (q : Nat → ClassId) (tt : Nat → Nat) (k : Nat) (hk : k < 256) : MI l D q tt yX5_size wsX5_size ({ frames := 0, cells := 0, slots := 0, locals := 0 } : Room) [.int (nI k)] [] (fun (r : Int32) (u : Unit) => r = (nI (pop k))) (fun (_ : Unit) => []) 0 0 := by
  refine MI.of RX5 [(0, .int (nI k))] (by decide) rfl rfl (Nat.le_of_ble_eq_true rfl) rfl ?_
  intro p e s m args below meth c A C hr hnm
  refine g_iconst C 0 dX5_size_0 (by decide) ?_
  refine g_istoren C [(1, .int 0), (0, .int (nI k))] dX5_size_1 rfl (by decide) rfl ?_
  refine g_iloadn C dX5_size_2 1 rfl rfl ?_
  refine g_istoren C [(2, .int (nI k)), (1, .int 0), (0, .int (nI k))] dX5_size_3 rfl (by decide) rfl ?_
  have J_4 : ∀ (fu : Nat) (ct : Nat) (j : Nat), j < fu → (j < 256) → (ct + pop j = pop k) → G p l e ({ frames := 0, cells := 0, slots := 0, locals := 0 } : Room) s m args below meth c 3 D A (MQ below (va_Qi (fun (r : Int32) (u : Unit) => r = (nI (pop k))) (Bw D A (fun (_ : Unit) => [])) A) args s 0 0 A) 4 [(0, .int (nI k)), (1, .int (nI ct)), (2, .int (nI j))] [] [] 0 0 := by
    intro fu
    induction fu with
    | zero =>
      intro ct j hfu
      exact absurd hfu (Nat.not_lt_zero _)
    | succ fu ih =>
      intro ct j hfu hj hc
      refine g_iloadn C dX5_size_4 2 rfl rfl ?_
      refine g_ifN_eq C 20 (j) dX5_size_5 rfl (by omega) (fun c_5 => ?_) (fun c_5 => ?_)
      · refine g_iloadn C dX5_size_20 1 rfl rfl ?_
        exact g_iret C () hr dX5_size_21 (Nat.le_of_ble_eq_true rfl) (Nat.le_of_ble_eq_true rfl) rfl (by have e : j = 0 := c_5; subst e; have e2 : ct = pop k := (by rw [← hc]; rfl); rw [e2])
      · refine g_iinc C (nI (ct + 1)) [(1, .int (nI (ct + 1))), (0, .int (nI k)), (2, .int (nI j))] dX5_size_8 1 rfl (nI_add ct 1) (by decide) rfl ?_
        refine g_iloadn C dX5_size_11 2 rfl rfl ?_
        refine g_iloadn C dX5_size_12 2 rfl rfl ?_
        refine g_iconst C 1 dX5_size_13 (by decide) ?_
        refine g_isub C dX5_size_14 ?_
        refine g_iand C dX5_size_15 ?_
        refine g_topci (nI (j &&& (j - 1))) ((pop_and j hj).resolve_right c_5) ?_
        refine g_istoren C [(2, .int (nI (j &&& (j - 1)))), (1, .int (nI (ct + 1))), (0, .int (nI k))] dX5_size_16 rfl (by decide) rfl ?_
        have hd_ := (pop_dec j hj c_5).2
        refine g_goto C 4 dX5_size_17 rfl ?_
        refine g_sub [2, 1, 0] (lv' := [(0, .int (nI k)), (1, .int (nI (ct + 1))), (2, .int (nI (j &&& (j - 1))))]) rfl ?_
        exact ih ((ct + 1)) ((j &&& (j - 1))) (by omega) (and_lt hj) (by have := (pop_dec j hj c_5).1; omega)
  refine g_sub [2, 1, 0] (lv' := [(0, .int (nI k)), (1, .int 0), (2, .int (nI k))]) rfl ?_
  exact J_4 _ (0) (k) (Nat.lt_succ_self _) hk (Nat.zero_add _)

set_option maxRecDepth 100000 in
set_option maxHeartbeats 4000000 in
theorem k_X5_loud (l : Launch) (D : va_G) (q : Nat → ClassId) (tt : Nat → Nat) (a : Nat → Nat) (v : MC) (o : Nat) (ho : o < 8) : MI l D q tt yX5_loud wsX5_loud ({ frames := 1, cells := 0, slots := 0, locals := 22 } : Room) [.ref (a 0), .int (nI o)] (mw q a v) (fun (r : Int32) (u : Unit) => r = (ldS (m_s v) o)) (fun (_ : Unit) => (mw q a v)) 0 0 := by
  refine MI.of RX5 [(0, .ref (a 0)), (1, .int (nI o))] (by decide) rfl rfl (Nat.le_of_ble_eq_true rfl) rfl ?_
  intro p e s m args below meth c A C hr hnm
  have w_0 : ∀ w ∈ u_ws RX5 TX5 29, w ∈ wsX5_loud := by decide +kernel
  have w_1 : Cond.fieldLink RX5 7 (TX5 0).1 (TX5 0).2.1 (TX5 0).2.2.1 ∈ wsX5_loud := by decide +kernel
  refine g_iconst C 1 dX5_loud_0 (by decide) ?_
  refine g_aloadn C dX5_loud_1 0 rfl rfl ?_
  refine g_iloadn C dX5_loud_2 1 rfl rfl ?_
  refine g_iconst C 2 dX5_loud_3 (by decide) ?_
  refine g_callAi C (rd_V C (k_X5_its l D q tt a v o 2 (by first | assumption | omega) (by first | assumption | omega)) gX5_loud_X5_its rfl rfl rfl 2 ok_X5_its rfl 0 rfl rfl (rest := [.int 1]) rfl rfl (Nat.le_of_ble_eq_true rfl) dX5_loud_4 ⟨(Nat.le_of_ble_eq_true rfl), (Nat.le_of_ble_eq_true rfl)⟩ ⟨(Nat.le_of_ble_eq_true rfl), (Nat.le_of_ble_eq_true rfl)⟩) (fun r_4 _ h_4 => ?_)
  obtain rfl := h_4
  refine g_iconst C 3 dX5_loud_7 (by decide) ?_
  refine g_idiv C dX5_loud_8 (by decide) ?_
  refine g_iadd C dX5_loud_9 ?_
  refine g_istoren C [(2, .int (1 + (((m_s v) (7 + 5 * o + 2)) / 3))), (0, .ref (a 0)), (1, .int (nI o))] dX5_loud_10 rfl (by decide) rfl ?_
  refine g_aloadn C dX5_loud_11 1 rfl rfl ?_
  refine g_iloadn C dX5_loud_12 2 rfl rfl ?_
  refine g_iconst C 0 dX5_loud_13 (by decide) ?_
  refine g_callAi C (rd_V C (k_X5_its l D q tt a v o 0 (by first | assumption | omega) (by first | assumption | omega)) gX5_loud_X5_its rfl rfl rfl 2 ok_X5_its rfl 0 rfl rfl (rest := []) rfl rfl (Nat.le_of_ble_eq_true rfl) dX5_loud_14 ⟨(Nat.le_of_ble_eq_true rfl), (Nat.le_of_ble_eq_true rfl)⟩ ⟨(Nat.le_of_ble_eq_true rfl), (Nat.le_of_ble_eq_true rfl)⟩) (fun r_14 _ h_14 => ?_)
  obtain rfl := h_14
  by_cases s_17_1 : ((m_s v) (7 + 5 * o + 0)) = 1
  · refine g_tin C 52 dX5_loud_17 (by rw [s_17_1]; decide) (by rw [s_17_1]; decide) (by rw [s_17_1]; rfl) rfl ?_
    refine g_iloadn C dX5_loud_52 0 rfl rfl ?_
    refine g_iconst C 1 dX5_loud_53 (by decide) ?_
    refine g_iadd C dX5_loud_54 ?_
    exact g_iret C () hr dX5_loud_55 (Nat.le_of_ble_eq_true rfl) (Nat.le_of_ble_eq_true rfl) rfl (by unfold ldS gsS sK sE sP; rw [if_pos s_17_1])
  by_cases s_17_2 : ((m_s v) (7 + 5 * o + 0)) = 2
  · refine g_tin C 56 dX5_loud_17 (by rw [s_17_2]; decide) (by rw [s_17_2]; decide) (by rw [s_17_2]; rfl) rfl ?_
    refine g_iloadn C dX5_loud_56 0 rfl rfl ?_
    refine g_aloadn C dX5_loud_57 1 rfl rfl ?_
    refine g_get C fx5 w_0 0 0 (v := .ref (a 1)) rfl (by decide) w_1 rfl dX5_loud_58 ?_
    refine g_iconst C 3 dX5_loud_61 (by decide) ?_
    refine g_iald C 1 (3) (f := (m_s v)) rfl rfl (by omega) (by decide) dX5_loud_62 ?_
    refine g_iadd C dX5_loud_63 ?_
    exact g_iret C () hr dX5_loud_64 (Nat.le_of_ble_eq_true rfl) (Nat.le_of_ble_eq_true rfl) rfl (by unfold ldS gsS sK sE sP; rw [if_neg s_17_1, if_pos s_17_2])
  by_cases s_17_3 : ((m_s v) (7 + 5 * o + 0)) = 3
  · refine g_tin C 65 dX5_loud_17 (by rw [s_17_3]; decide) (by rw [s_17_3]; decide) (by rw [s_17_3]; rfl) rfl ?_
    refine g_iconst C 2 dX5_loud_65 (by decide) ?_
    refine g_iloadn C dX5_loud_66 0 rfl rfl ?_
    refine g_iconst C 1 dX5_loud_67 (by decide) ?_
    refine g_iadd C dX5_loud_68 ?_
    refine g_imul C dX5_loud_69 ?_
    exact g_iret C () hr dX5_loud_70 (Nat.le_of_ble_eq_true rfl) (Nat.le_of_ble_eq_true rfl) rfl (by unfold ldS gsS sK sE sP; rw [if_neg s_17_1, if_neg s_17_2, if_pos s_17_3])
  by_cases s_17_4 : ((m_s v) (7 + 5 * o + 0)) = 4
  · refine g_tin C 71 dX5_loud_17 (by rw [s_17_4]; decide) (by rw [s_17_4]; decide) (by rw [s_17_4]; rfl) rfl ?_
    refine g_iloadn C dX5_loud_71 0 rfl rfl ?_
    refine g_aloadn C dX5_loud_72 1 rfl rfl ?_
    refine g_get C fx5 w_0 0 0 (v := .ref (a 1)) rfl (by decide) w_1 rfl dX5_loud_73 ?_
    refine g_iconst C 3 dX5_loud_76 (by decide) ?_
    refine g_iald C 1 (3) (f := (m_s v)) rfl rfl (by omega) (by decide) dX5_loud_77 ?_
    refine g_iadd C dX5_loud_78 ?_
    refine g_aloadn C dX5_loud_79 1 rfl rfl ?_
    refine g_iloadn C dX5_loud_80 2 rfl rfl ?_
    refine g_iconst C 1 dX5_loud_81 (by decide) ?_
    refine g_callAi C (rd_V C (k_X5_its l D q tt a v o 1 (by first | assumption | omega) (by first | assumption | omega)) gX5_loud_X5_its rfl rfl rfl 2 ok_X5_its rfl 0 rfl rfl (rest := [.int ((1 + (((m_s v) (7 + 5 * o + 2)) / 3)) + ((m_s v) 3))]) rfl rfl (Nat.le_of_ble_eq_true rfl) dX5_loud_82 ⟨(Nat.le_of_ble_eq_true rfl), (Nat.le_of_ble_eq_true rfl)⟩ ⟨(Nat.le_of_ble_eq_true rfl), (Nat.le_of_ble_eq_true rfl)⟩) (fun r_82 _ h_82 => ?_)
    obtain rfl := h_82
    refine g_bipush C 10 dX5_loud_85 (by decide) ?_
    refine g_idiv C dX5_loud_87 (by decide) ?_
    refine g_iadd C dX5_loud_88 ?_
    exact g_iret C () hr dX5_loud_89 (Nat.le_of_ble_eq_true rfl) (Nat.le_of_ble_eq_true rfl) rfl (by unfold ldS gsS sK sE sP; rw [if_neg s_17_1, if_neg s_17_2, if_neg s_17_3, if_pos s_17_4])
  by_cases s_17_5 : ((m_s v) (7 + 5 * o + 0)) = 5
  · refine g_tin C 90 dX5_loud_17 (by rw [s_17_5]; decide) (by rw [s_17_5]; decide) (by rw [s_17_5]; rfl) rfl ?_
    refine g_iconst C 0 dX5_loud_90 (by decide) ?_
    refine g_iloadn C dX5_loud_91 0 rfl rfl ?_
    refine g_isub C dX5_loud_92 ?_
    exact g_iret C () hr dX5_loud_93 (Nat.le_of_ble_eq_true rfl) (Nat.le_of_ble_eq_true rfl) rfl (by unfold ldS gsS sK sE sP; rw [if_neg s_17_1, if_neg s_17_2, if_neg s_17_3, if_neg s_17_4, if_pos s_17_5])
  have ns_17_1 := lv_neT s_17_1 (a := 1) (by decide)
  have ns_17_2 := lv_neT s_17_2 (a := 2) (by decide)
  have ns_17_3 := lv_neT s_17_3 (a := 3) (by decide)
  have ns_17_4 := lv_neT s_17_4 (a := 4) (by decide)
  have ns_17_5 := lv_neT s_17_5 (a := 5) (by decide)
  refine g_tout C 94 dX5_loud_17 (by omega) rfl ?_
  refine g_iloadn C dX5_loud_94 0 rfl rfl ?_
  exact g_iret C () hr dX5_loud_95 (Nat.le_of_ble_eq_true rfl) (Nat.le_of_ble_eq_true rfl) rfl (by unfold ldS gsS sK sE sP; rw [if_neg s_17_1, if_neg s_17_2, if_neg s_17_3, if_neg s_17_4, if_neg s_17_5])

set_option maxRecDepth 100000 in
set_option maxHeartbeats 4000000 in
theorem k_X5_loudIn (l : Launch) (D : va_G) (q : Nat → ClassId) (tt : Nat → Nat) (a : Nat → Nat) (v : MC) (N : Nat) (x : Int32) (b : Int32) (hG : Gd (m_s v) N) : MI l D q tt yX5_loudIn wsX5_loudIn ({ frames := 2, cells := 0, slots := 0, locals := 44 } : Room) [.ref (a 0), .int x, .int b] (mw q a v) (fun (r : Int32) (u : Unit) => r = (liS (m_s v) N x b)) (fun (_ : Unit) => (mw q a v)) 0 0 := by
  refine MI.of RX5 [(0, .ref (a 0)), (1, .int x), (2, .int b)] (by decide) rfl rfl (Nat.le_of_ble_eq_true rfl) rfl ?_
  intro p e s m args below meth c A C hr hnm
  have w_0 : ∀ w ∈ u_ws RX5 TX5 29, w ∈ wsX5_loudIn := by decide +kernel
  have w_1 : Cond.fieldLink RX5 7 (TX5 0).1 (TX5 0).2.1 (TX5 0).2.2.1 ∈ wsX5_loudIn := by decide +kernel
  have h8 := hG.le
  refine g_iconst C 0 dX5_loudIn_0 (by decide) ?_
  refine g_istoren C [(3, .int 0), (0, .ref (a 0)), (1, .int x), (2, .int b)] dX5_loudIn_1 rfl (by decide) rfl ?_
  refine g_iconst C 0 dX5_loudIn_2 (by decide) ?_
  refine g_istore C [(4, .int 0), (3, .int 0), (0, .ref (a 0)), (1, .int x), (2, .int b)] dX5_loudIn_3 (by decide) rfl ?_
  have J_5 : ∀ (fu : Nat) (i : Nat), N - i < fu → (i ≤ N) → G p l e ({ frames := 2, cells := 0, slots := 0, locals := 44 } : Room) s m args below meth c 5 D A (MQ below (va_Qi (fun (r : Int32) (u : Unit) => r = (liS (m_s v) N x b)) (Bw D A (fun (_ : Unit) => (mw q a v))) A) args s 0 0 A) 5 [(0, .ref (a 0)), (1, .int x), (2, .int b), (3, .int (sumI (liT (m_s v) x b) i)), (4, .int (nI i))] [] (mw q a v) 0 0 := by
    intro fu
    induction fu with
    | zero =>
      intro i hfu
      exact absurd hfu (Nat.not_lt_zero _)
    | succ fu ih =>
      intro i hfu hi
      refine g_iload C dX5_loudIn_5 4 rfl ?_
      refine g_aloadn C dX5_loudIn_7 0 rfl rfl ?_
      refine g_get C fx5 w_0 0 0 (v := .ref (a 1)) rfl (by decide) w_1 rfl dX5_loudIn_8 ?_
      refine g_iconst C 0 dX5_loudIn_11 (by decide) ?_
      refine g_iald C 1 (0) (f := (m_s v)) rfl rfl (by omega) (by decide) dX5_loudIn_12 ?_
      refine g_topci (nI N) (hG.n) ?_
      refine g_icmpN_ge C 63 (i) (N) dX5_loudIn_13 rfl (by omega) (by omega) (fun c_13 => ?_) (fun c_13 => ?_)
      · refine g_iloadn C dX5_loudIn_63 3 rfl rfl ?_
        exact g_iret C () hr dX5_loudIn_64 (Nat.le_of_ble_eq_true rfl) (Nat.le_of_ble_eq_true rfl) rfl (by have e : i = N := (by omega); rw [e]; rfl)
      · refine g_iloadn C dX5_loudIn_16 3 rfl rfl ?_
        refine g_aloadn C dX5_loudIn_17 0 rfl rfl ?_
        refine g_iload C dX5_loudIn_18 4 rfl ?_
        refine g_iconst C 4 dX5_loudIn_20 (by decide) ?_
        refine g_callAi C (rd_V C (k_X5_its l D q tt a v i 4 (by first | assumption | omega) (by first | assumption | omega)) gX5_loudIn_X5_its rfl rfl rfl 2 ok_X5_its rfl 0 rfl rfl (rest := [.int (sumI (liT (m_s v) x b) i)]) rfl rfl (Nat.le_of_ble_eq_true rfl) dX5_loudIn_21 ⟨(Nat.le_of_ble_eq_true rfl), (Nat.le_of_ble_eq_true rfl)⟩ ⟨(Nat.le_of_ble_eq_true rfl), (Nat.le_of_ble_eq_true rfl)⟩) (fun r_21 _ h_21 => ?_)
        obtain rfl := h_21
        refine g_iconst C 1 dX5_loudIn_24 (by decide) ?_
        refine g_icmp_ne C 54 dX5_loudIn_25 rfl (fun c_25 => ?_) (fun c_25 => ?_)
        · refine g_iconst C 0 dX5_loudIn_54 (by decide) ?_
          refine g_iadd C dX5_loudIn_55 ?_
          refine g_topci (sumI (liT (m_s v) x b) (i + 1)) (by show sumI _ i + _ = sumI _ i + liT _ _ _ i; unfold liT sC sR; rw [if_neg (fun h => c_25 h.1)]) ?_
          refine g_istoren C [(3, .int (sumI (liT (m_s v) x b) (i + 1))), (0, .ref (a 0)), (1, .int x), (2, .int b), (4, .int (nI i))] dX5_loudIn_56 rfl (by decide) rfl ?_
          refine g_iinc C (nI (i + 1)) [(4, .int (nI (i + 1))), (3, .int (sumI (liT (m_s v) x b) (i + 1))), (0, .ref (a 0)), (1, .int x), (2, .int b)] dX5_loudIn_57 4 rfl (nI_add i 1) (by decide) rfl ?_
          refine g_goto C 5 dX5_loudIn_60 rfl ?_
          refine g_sub [2, 3, 4, 1, 0] (lv' := [(0, .ref (a 0)), (1, .int x), (2, .int b), (3, .int (sumI (liT (m_s v) x b) (i + 1))), (4, .int (nI (i + 1)))]) rfl ?_
          exact ih ((i + 1)) (by omega) (by first | assumption | omega)
        · refine g_aloadn C dX5_loudIn_28 0 rfl rfl ?_
          refine g_iload C dX5_loudIn_29 4 rfl ?_
          refine g_iconst C 3 dX5_loudIn_31 (by decide) ?_
          refine g_callAi C (rd_V C (k_X5_its l D q tt a v i 3 (by first | assumption | omega) (by first | assumption | omega)) gX5_loudIn_X5_its rfl rfl rfl 2 ok_X5_its rfl 0 rfl rfl (rest := [.int (sumI (liT (m_s v) x b) i)]) rfl rfl (Nat.le_of_ble_eq_true rfl) dX5_loudIn_32 ⟨(Nat.le_of_ble_eq_true rfl), (Nat.le_of_ble_eq_true rfl)⟩ ⟨(Nat.le_of_ble_eq_true rfl), (Nat.le_of_ble_eq_true rfl)⟩) (fun r_32 _ h_32 => ?_)
          obtain rfl := h_32
          refine g_iloadn C dX5_loudIn_35 1 rfl rfl ?_
          refine g_icmp_ne C 54 dX5_loudIn_36 rfl (fun c_36 => ?_) (fun c_36 => ?_)
          · refine g_iconst C 0 dX5_loudIn_54 (by decide) ?_
            refine g_iadd C dX5_loudIn_55 ?_
            refine g_topci (sumI (liT (m_s v) x b) (i + 1)) (by show sumI _ i + _ = sumI _ i + liT _ _ _ i; unfold liT sC sR; rw [if_neg (fun h => c_36 h.2.1)]) ?_
            refine g_istoren C [(3, .int (sumI (liT (m_s v) x b) (i + 1))), (0, .ref (a 0)), (1, .int x), (2, .int b), (4, .int (nI i))] dX5_loudIn_56 rfl (by decide) rfl ?_
            refine g_iinc C (nI (i + 1)) [(4, .int (nI (i + 1))), (3, .int (sumI (liT (m_s v) x b) (i + 1))), (0, .ref (a 0)), (1, .int x), (2, .int b)] dX5_loudIn_57 4 rfl (nI_add i 1) (by decide) rfl ?_
            refine g_goto C 5 dX5_loudIn_60 rfl ?_
            refine g_sub [2, 3, 4, 1, 0] (lv' := [(0, .ref (a 0)), (1, .int x), (2, .int b), (3, .int (sumI (liT (m_s v) x b) (i + 1))), (4, .int (nI (i + 1)))]) rfl ?_
            exact ih ((i + 1)) (by omega) (by first | assumption | omega)
          · refine g_iload C dX5_loudIn_39 4 rfl ?_
            refine g_iloadn C dX5_loudIn_41 2 rfl rfl ?_
            refine g_icmp_eq C 54 dX5_loudIn_42 rfl (fun c_42 => ?_) (fun c_42 => ?_)
            · refine g_iconst C 0 dX5_loudIn_54 (by decide) ?_
              refine g_iadd C dX5_loudIn_55 ?_
              refine g_topci (sumI (liT (m_s v) x b) (i + 1)) (by show sumI _ i + _ = sumI _ i + liT _ _ _ i; unfold liT sC sR; rw [if_neg (fun h => h.2.2 c_42)]) ?_
              refine g_istoren C [(3, .int (sumI (liT (m_s v) x b) (i + 1))), (0, .ref (a 0)), (1, .int x), (2, .int b), (4, .int (nI i))] dX5_loudIn_56 rfl (by decide) rfl ?_
              refine g_iinc C (nI (i + 1)) [(4, .int (nI (i + 1))), (3, .int (sumI (liT (m_s v) x b) (i + 1))), (0, .ref (a 0)), (1, .int x), (2, .int b)] dX5_loudIn_57 4 rfl (nI_add i 1) (by decide) rfl ?_
              refine g_goto C 5 dX5_loudIn_60 rfl ?_
              refine g_sub [2, 3, 4, 1, 0] (lv' := [(0, .ref (a 0)), (1, .int x), (2, .int b), (3, .int (sumI (liT (m_s v) x b) (i + 1))), (4, .int (nI (i + 1)))]) rfl ?_
              exact ih ((i + 1)) (by omega) (by first | assumption | omega)
            · refine g_aloadn C dX5_loudIn_45 0 rfl rfl ?_
              refine g_iload C dX5_loudIn_46 4 rfl ?_
              refine g_callAi C (rd_V C (k_X5_loud l D q tt a v i (by first | assumption | omega)) gX5_loudIn_X5_loud rfl rfl rfl 1 ok_X5_loud rfl 0 rfl rfl (rest := [.int (sumI (liT (m_s v) x b) i)]) rfl rfl (Nat.le_of_ble_eq_true rfl) dX5_loudIn_48 ⟨(Nat.le_of_ble_eq_true rfl), (Nat.le_of_ble_eq_true rfl)⟩ ⟨(Nat.le_of_ble_eq_true rfl), (Nat.le_of_ble_eq_true rfl)⟩) (fun r_48 _ h_48 => ?_)
              obtain rfl := h_48
              refine g_goto C 55 dX5_loudIn_51 rfl ?_
              refine g_iadd C dX5_loudIn_55 ?_
              refine g_topci (sumI (liT (m_s v) x b) (i + 1)) (by show sumI _ i + _ = sumI _ i + liT _ _ _ i; unfold liT sC sR; rw [if_pos ⟨c_25, c_36, c_42⟩]) ?_
              refine g_istoren C [(3, .int (sumI (liT (m_s v) x b) (i + 1))), (0, .ref (a 0)), (1, .int x), (2, .int b), (4, .int (nI i))] dX5_loudIn_56 rfl (by decide) rfl ?_
              refine g_iinc C (nI (i + 1)) [(4, .int (nI (i + 1))), (3, .int (sumI (liT (m_s v) x b) (i + 1))), (0, .ref (a 0)), (1, .int x), (2, .int b)] dX5_loudIn_57 4 rfl (nI_add i 1) (by decide) rfl ?_
              refine g_goto C 5 dX5_loudIn_60 rfl ?_
              refine g_sub [2, 3, 4, 1, 0] (lv' := [(0, .ref (a 0)), (1, .int x), (2, .int b), (3, .int (sumI (liT (m_s v) x b) (i + 1))), (4, .int (nI (i + 1)))]) rfl ?_
              exact ih ((i + 1)) (by omega) (by first | assumption | omega)
  refine g_sub [2, 3, 4, 1, 0] (lv' := [(0, .ref (a 0)), (1, .int x), (2, .int b), (3, .int 0), (4, .int 0)]) rfl ?_
  exact J_5 _ (0) (Nat.lt_succ_self _) (by first | assumption | omega)

set_option maxRecDepth 100000 in
set_option maxHeartbeats 4000000 in
theorem k_X5_hears (l : Launch) (D : va_G) (q : Nat → ClassId) (tt : Nat → Nat) (a : Nat → Nat) (v : MC) (N : Nat) (o : Nat) (hG : Gd (m_s v) N) (ho : o < N) : MI l D q tt yX5_hears wsX5_hears ({ frames := 3, cells := 0, slots := 0, locals := 68 } : Room) [.ref (a 0), .int (nI o)] (mw q a v) (fun (r : Int32) (u : Unit) => r = (heS (m_s v) N o)) (fun (_ : Unit) => (mw q a v)) 0 0 := by
  refine MI.of RX5 [(0, .ref (a 0)), (1, .int (nI o))] (by decide) rfl rfl (Nat.le_of_ble_eq_true rfl) rfl ?_
  intro p e s m args below meth c A C hr hnm
  have w_0 : ∀ w ∈ u_ws RX5 TX5 29, w ∈ wsX5_hears := by decide +kernel
  have w_1 : Cond.fieldLink RX5 7 (TX5 0).1 (TX5 0).2.1 (TX5 0).2.2.1 ∈ wsX5_hears := by decide +kernel
  have h8 := hG.le
  refine g_aloadn C dX5_hears_0 0 rfl rfl ?_
  refine g_iloadn C dX5_hears_1 1 rfl rfl ?_
  refine g_iconst C 3 dX5_hears_2 (by decide) ?_
  refine g_callAi C (rd_V C (k_X5_its l D q tt a v o 3 (by first | assumption | omega) (by first | assumption | omega)) gX5_hears_X5_its rfl rfl rfl 2 ok_X5_its rfl 0 rfl rfl (rest := []) rfl rfl (Nat.le_of_ble_eq_true rfl) dX5_hears_3 ⟨(Nat.le_of_ble_eq_true rfl), (Nat.le_of_ble_eq_true rfl)⟩ ⟨(Nat.le_of_ble_eq_true rfl), (Nat.le_of_ble_eq_true rfl)⟩) (fun r_3 _ h_3 => ?_)
  obtain rfl := h_3
  refine g_istoren C [(2, .int ((m_s v) (7 + 5 * o + 3))), (0, .ref (a 0)), (1, .int (nI o))] dX5_hears_6 rfl (by decide) rfl ?_
  refine g_aloadn C dX5_hears_7 1 rfl rfl ?_
  refine g_iloadn C dX5_hears_8 0 rfl rfl ?_
  refine g_iconst C 1 dX5_hears_9 (by decide) ?_
  refine g_iadd C dX5_hears_10 ?_
  refine g_bipush C 8 dX5_hears_11 (by decide) ?_
  refine g_irem C dX5_hears_13 (by decide) ?_
  refine g_iconst C (-1) dX5_hears_14 (by decide) ?_
  refine g_callAi C (rd_V C (k_X5_loudIn l D q tt a v N ((((m_s v) (7 + 5 * o + 3)) + 1) - (((m_s v) (7 + 5 * o + 3)) + 1) / 8 * 8) (-1) (by first | assumption | omega)) gX5_hears_X5_loudIn rfl rfl rfl 2 ok_X5_loudIn rfl 0 rfl rfl (rest := []) rfl rfl (Nat.le_of_ble_eq_true rfl) dX5_hears_15 ⟨(Nat.le_of_ble_eq_true rfl), (Nat.le_of_ble_eq_true rfl)⟩ ⟨(Nat.le_of_ble_eq_true rfl), (Nat.le_of_ble_eq_true rfl)⟩) (fun r_15 _ h_15 => ?_)
  obtain rfl := h_15
  refine g_aloadn C dX5_hears_18 1 rfl rfl ?_
  refine g_iloadn C dX5_hears_19 0 rfl rfl ?_
  refine g_bipush C 8 dX5_hears_20 (by decide) ?_
  refine g_iadd C dX5_hears_22 ?_
  refine g_iconst C 1 dX5_hears_23 (by decide) ?_
  refine g_isub C dX5_hears_24 ?_
  refine g_bipush C 8 dX5_hears_25 (by decide) ?_
  refine g_irem C dX5_hears_27 (by decide) ?_
  refine g_iconst C (-1) dX5_hears_28 (by decide) ?_
  refine g_callAi C (rd_V C (k_X5_loudIn l D q tt a v N (((((m_s v) (7 + 5 * o + 3)) + 8) - 1) - ((((m_s v) (7 + 5 * o + 3)) + 8) - 1) / 8 * 8) (-1) (by first | assumption | omega)) gX5_hears_X5_loudIn rfl rfl rfl 2 ok_X5_loudIn rfl 0 rfl rfl (rest := [.int (liS (m_s v) N ((((m_s v) (7 + 5 * o + 3)) + 1) - (((m_s v) (7 + 5 * o + 3)) + 1) / 8 * 8) (-1))]) rfl rfl (Nat.le_of_ble_eq_true rfl) dX5_hears_29 ⟨(Nat.le_of_ble_eq_true rfl), (Nat.le_of_ble_eq_true rfl)⟩ ⟨(Nat.le_of_ble_eq_true rfl), (Nat.le_of_ble_eq_true rfl)⟩) (fun r_29 _ h_29 => ?_)
  obtain rfl := h_29
  refine g_iadd C dX5_hears_32 ?_
  refine g_istoren C [(3, .int ((liS (m_s v) N ((((m_s v) (7 + 5 * o + 3)) + 1) - (((m_s v) (7 + 5 * o + 3)) + 1) / 8 * 8) (-1)) + (liS (m_s v) N (((((m_s v) (7 + 5 * o + 3)) + 8) - 1) - ((((m_s v) (7 + 5 * o + 3)) + 8) - 1) / 8 * 8) (-1)))), (2, .int ((m_s v) (7 + 5 * o + 3))), (0, .ref (a 0)), (1, .int (nI o))] dX5_hears_33 rfl (by decide) rfl ?_
  refine g_aloadn C dX5_hears_34 2 rfl rfl ?_
  refine g_iloadn C dX5_hears_35 1 rfl rfl ?_
  refine g_iloadn C dX5_hears_36 3 rfl rfl ?_
  refine g_callAi C (rd_V C (k_X5_loudIn l D q tt a v N ((m_s v) (7 + 5 * o + 3)) (nI o) (by first | assumption | omega)) gX5_hears_X5_loudIn rfl rfl rfl 2 ok_X5_loudIn rfl 0 rfl rfl (rest := []) rfl rfl (Nat.le_of_ble_eq_true rfl) dX5_hears_37 ⟨(Nat.le_of_ble_eq_true rfl), (Nat.le_of_ble_eq_true rfl)⟩ ⟨(Nat.le_of_ble_eq_true rfl), (Nat.le_of_ble_eq_true rfl)⟩) (fun r_37 _ h_37 => ?_)
  obtain rfl := h_37
  refine g_iloadn C dX5_hears_40 0 rfl rfl ?_
  refine g_iconst C 1 dX5_hears_41 (by decide) ?_
  refine g_aloadn C dX5_hears_42 2 rfl rfl ?_
  refine g_get C fx5 w_0 0 0 (v := .ref (a 1)) rfl (by decide) w_1 rfl dX5_hears_43 ?_
  refine g_iconst C 5 dX5_hears_46 (by decide) ?_
  refine g_iald C 1 (5) (f := (m_s v)) rfl rfl (by omega) (by decide) dX5_hears_47 ?_
  refine g_iadd C dX5_hears_48 ?_
  refine g_idiv C dX5_hears_49 hG.wall ?_
  refine g_iadd C dX5_hears_50 ?_
  exact g_iret C () hr dX5_hears_51 (Nat.le_of_ble_eq_true rfl) (Nat.le_of_ble_eq_true rfl) rfl (rfl)

