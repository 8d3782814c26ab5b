set_option maxRecDepth 100000 in
set_option maxHeartbeats 4000000 in
theorem k_X4_within (l : Launch) (D : va_G) (q : Nat → ClassId) (tt : Nat → Nat) (x : Int32) (lo : Int32) (hi : Int32)  : MI l D q tt yX4_within wsX4_within ({ frames := 0, cells := 0, slots := 0, locals := 0 } : Room) [.int x, .int lo, .int hi] [] (fun (r : Int32) (u : Unit) => r = (bI (lo ≤ x ∧ x ≤ hi))) (fun (_ : Unit) => []) 0 0 := by
  refine MI.of RX4 [(0, .int x), (1, .int lo), (2, .int hi)] (by decide) rfl rfl (Nat.le_of_ble_eq_true rfl) rfl ?_
  intro p e s m args below meth c A C hr hnm
  refine g_iloadn C dX4_within_0 1 rfl rfl ?_
  refine g_iloadn C dX4_within_1 0 rfl rfl ?_
  refine g_icmp_gt C 14 dX4_within_2 rfl (fun c_2 => ?_) (fun c_2 => ?_)
  · refine g_iconst C 0 dX4_within_14 (by decide) ?_
    exact g_zret C () hr rfl dX4_within_15 (Nat.le_of_ble_eq_true rfl) (Nat.le_of_ble_eq_true rfl) rfl (by unfold bI; split <;> rename_i hb_ <;> first | rfl | (exfalso; (try simp only [lg_lt0, lg_gt0, w_le, w_lt] at hb_ c_2); simp only [lg_lt0, lg_gt0, w_le, w_lt, Int32.lt_iff_toInt_lt, Int32.le_iff_toInt_le, ← Int32.toInt_inj, tI_0, tI_1, tI_2, tI_3, tI_4, tI_5, tI_6, tI_7, tI_8, tI_9, tI_10, tI_13, tI_19, tI_20, tI_30, tI_32, tI_40, tI_48, tI_57, tI_59, tI_60, tI_97, tI_99, tI_100, tI_122, tI_200, tI_m1, tI_m2, tI_m3, tI_39] at hb_ c_2 <;> omega))
  · refine g_iloadn C dX4_within_5 0 rfl rfl ?_
    refine g_iloadn C dX4_within_6 2 rfl rfl ?_
    refine g_icmp_gt C 14 dX4_within_7 rfl (fun c_7 => ?_) (fun c_7 => ?_)
    · refine g_iconst C 0 dX4_within_14 (by decide) ?_
      exact g_zret C () hr rfl dX4_within_15 (Nat.le_of_ble_eq_true rfl) (Nat.le_of_ble_eq_true rfl) rfl (by unfold bI; split <;> rename_i hb_ <;> first | rfl | (exfalso; (try simp only [lg_lt0, lg_gt0, w_le, w_lt] at hb_ c_2 c_7); simp only [lg_lt0, lg_gt0, w_le, w_lt, Int32.lt_iff_toInt_lt, Int32.le_iff_toInt_le, ← Int32.toInt_inj, tI_0, tI_1, tI_2, tI_3, tI_4, tI_5, tI_6, tI_7, tI_8, tI_9, tI_10, tI_13, tI_19, tI_20, tI_30, tI_32, tI_40, tI_48, tI_57, tI_59, tI_60, tI_97, tI_99, tI_100, tI_122, tI_200, tI_m1, tI_m2, tI_m3, tI_39] at hb_ c_2 c_7 <;> omega))
    · refine g_iconst C 1 dX4_within_10 (by decide) ?_
      refine g_goto C 15 dX4_within_11 rfl ?_
      exact g_zret C () hr rfl dX4_within_15 (Nat.le_of_ble_eq_true rfl) (Nat.le_of_ble_eq_true rfl) rfl (by unfold bI; split <;> rename_i hb_ <;> first | rfl | (exfalso; (try simp only [lg_lt0, lg_gt0, w_le, w_lt] at hb_ c_2 c_7); simp only [lg_lt0, lg_gt0, w_le, w_lt, Int32.lt_iff_toInt_lt, Int32.le_iff_toInt_le, ← Int32.toInt_inj, tI_0, tI_1, tI_2, tI_3, tI_4, tI_5, tI_6, tI_7, tI_8, tI_9, tI_10, tI_13, tI_19, tI_20, tI_30, tI_32, tI_40, tI_48, tI_57, tI_59, tI_60, tI_97, tI_99, tI_100, tI_122, tI_200, tI_m1, tI_m2, tI_m3, tI_39] at hb_ c_2 c_7 <;> omega))

set_option maxRecDepth 100000 in
set_option maxHeartbeats 4000000 in
theorem k_X4_heldPride (l : Launch) (D : va_G) (q : Nat → ClassId) (tt : Nat → Nat) (x : Int32)  : MI l D q tt yX4_heldPride wsX4_heldPride ({ frames := 1, cells := 0, slots := 0, locals := 21 } : Room) [.int x] [] (fun (r : Int32) (u : Unit) => r = (wiS x)) (fun (_ : Unit) => []) 0 0 := by
  refine MI.of RX4 [(0, .int x)] (by decide) rfl rfl (Nat.le_of_ble_eq_true rfl) rfl ?_
  intro p e s m args below meth c A C hr hnm
  have w_0 : Cond.methodLink RX4 271 Lib.Math.min.name ∈ wsX4_heldPride := by decide +kernel
  have w_1 : Cond.static Lib.Math.min.name ∈ wsX4_heldPride := by decide +kernel
  have w_2 : Cond.initialized "java/lang/Math" ∈ wsX4_heldPride := by decide +kernel
  have w_3 : Cond.code Lib.Math.min.name Lib.Math.min.code 2 (some .int) ∈ wsX4_heldPride := by decide +kernel
  have w_4 : Cond.methodLink RX4 276 Lib.Math.max.name ∈ wsX4_heldPride := by decide +kernel
  have w_5 : Cond.static Lib.Math.max.name ∈ wsX4_heldPride := by decide +kernel
  have w_6 : Cond.code Lib.Math.max.name Lib.Math.max.code 2 (some .int) ∈ wsX4_heldPride := by decide +kernel
  refine g_iconst C 0 dX4_heldPride_0 (by decide) ?_
  refine g_bipush C 99 dX4_heldPride_1 (by decide) ?_
  refine g_iloadn C dX4_heldPride_3 0 rfl rfl ?_
  refine g_mmin C w_0 w_1 w_2 w_3 (Nat.le_of_ble_eq_true rfl) (Nat.le_of_ble_eq_true rfl) (Nat.le_of_ble_eq_true rfl) (Nat.le_of_ble_eq_true rfl) dX4_heldPride_4 ?_
  refine g_mmax C w_4 w_5 w_2 w_6 (Nat.le_of_ble_eq_true rfl) (Nat.le_of_ble_eq_true rfl) (Nat.le_of_ble_eq_true rfl) (Nat.le_of_ble_eq_true rfl) dX4_heldPride_7 ?_
  exact g_iret C () hr dX4_heldPride_10 (Nat.le_of_ble_eq_true rfl) (Nat.le_of_ble_eq_true rfl) rfl (held_wi x)

set_option maxRecDepth 100000 in
set_option maxHeartbeats 4000000 in
theorem k_X0_has (l : Launch) (D : va_G) (q : Nat → ClassId) (tt : Nat → Nat) (a : Nat → Nat) (h : HC) (S : Nat → Int32) (N : Nat) (x : Int32) (hG : Gd S N) (rS : HR S N h) : MI l D q tt yX0_has wsX0_has ({ frames := 1, cells := 0, slots := 0, locals := 22 } : Room) [.ref (a 0), .int x] (hw q a h) (fun (r : Int32) (u : Unit) => r = (bI (0 ≤ x ∧ x < (nI N)))) (fun (_ : Unit) => (hw q a h)) 0 0 := by
  refine MI.of RX0 [(0, .ref (a 0)), (1, .int x)] (by decide) rfl rfl (Nat.le_of_ble_eq_true rfl) rfl ?_
  intro p e s m args below meth c A C hr hnm
  have w_0 : ∀ w ∈ u_ws RX0 TX0 11, w ∈ wsX0_has := by decide +kernel
  have w_1 : Cond.fieldLink RX0 49 (TX0 5).1 (TX0 5).2.1 (TX0 5).2.2.1 ∈ wsX0_has := by decide +kernel
  have w_2 : Cond.methodLinkNest RX0 58 yX4_within "HiredClaque" ∈ nwL := by decide +kernel
  have w_3 : Cond.static yX4_within ∈ wsX0_has := by decide +kernel
  have w_4 : Cond.initialized yX4_within.cls ∈ wsX0_has := by decide +kernel
  have h8 := hG.le
  refine g_iloadn C dX0_has_0 1 rfl rfl ?_
  refine g_iconst C 0 dX0_has_1 (by decide) ?_
  refine g_aloadn C dX0_has_2 0 rfl rfl ?_
  refine g_get C fx0 w_0 0 5 (v := .int (hN h)) rfl (by decide) w_1 rfl dX0_has_3 ?_
  refine g_topci (nI N) (rS.n hG) ?_
  refine g_iconst C 1 dX0_has_6 (by decide) ?_
  refine g_isub C dX0_has_7 ?_
  refine g_call0i C (rd_SN C (host := "HiredClaque") (k_X4_within l D q tt x 0 ((nI N) - 1) ) gX0_has_X4_within_n58 rfl rfl rfl 3 ok_X4_within w_2 w_3 w_4 (rest := []) rfl rfl (Nat.le_of_ble_eq_true rfl) dX0_has_8 ⟨(Nat.le_of_ble_eq_true rfl), (Nat.le_of_ble_eq_true rfl)⟩ ⟨(Nat.le_of_ble_eq_true rfl), (Nat.le_of_ble_eq_true rfl)⟩) (fun _ => rfl) (fun r_8 _ h_8 => ?_)
  obtain rfl := h_8
  refine g_topci (bI (0 ≤ x ∧ x < (nI N))) (has_iff (by omega)) ?_
  exact g_zret C () hr bI_z dX0_has_11 (Nat.le_of_ble_eq_true rfl) (Nat.le_of_ble_eq_true rfl) rfl (by unfold bI; split <;> rename_i hb_ <;> first | rfl | (exfalso; (try simp only [lg_lt0, lg_gt0, w_le, w_lt] at hb_ ); simp only [lg_lt0, lg_gt0, w_le, w_lt, Int32.lt_iff_toInt_lt, Int32.le_iff_toInt_le, ← Int32.toInt_inj, tI_0, tI_1, tI_2, tI_3, tI_4, tI_5, tI_6, tI_7, tI_8, tI_9, tI_10, tI_13, tI_19, tI_20, tI_30, tI_32, tI_40, tI_48, tI_57, tI_59, tI_60, tI_97, tI_99, tI_100, tI_122, tI_200, tI_m1, tI_m2, tI_m3, tI_39] at hb_  <;> omega))

set_option maxRecDepth 100000 in
set_option maxHeartbeats 4000000 in
theorem k_X0_doesClap (l : Launch) (D : va_G) (q : Nat → ClassId) (tt : Nat → Nat) (a : Nat → Nat) (h : HC) (S : Nat → Int32) (N : Nat) (o : Nat) (hG : Gd S N) (rS : HR S N h) (ho : o < N) : MI l D q tt yX0_doesClap wsX0_doesClap ({ frames := 0, cells := 0, slots := 0, locals := 0 } : Room) [.ref (a 0), .int (nI o)] (hw q a h) (fun (r : Int32) (u : Unit) => r = (bI (sC S o = 1))) (fun (_ : Unit) => (hw q a h)) 0 0 := by
  refine MI.of RX0 [(0, .ref (a 0)), (1, .int (nI o))] (by decide) rfl rfl (Nat.le_of_ble_eq_true rfl) rfl ?_
  intro p e s m args below meth c A C hr hnm
  have w_0 : ∀ w ∈ u_ws RX0 TX0 11, w ∈ wsX0_doesClap := by decide +kernel
  have w_1 : Cond.fieldLink RX0 52 (TX0 6).1 (TX0 6).2.1 (TX0 6).2.2.1 ∈ wsX0_doesClap := by decide +kernel
  have h8 := hG.le
  refine g_aloadn C dX0_doesClap_0 0 rfl rfl ?_
  refine g_get C fx0 w_0 0 6 (v := .int (hC h)) rfl (by decide) w_1 rfl dX0_doesClap_1 ?_
  refine g_topci (clS S N) (rS.c) ?_
  refine g_iconst C 1 dX0_doesClap_4 (by decide) ?_
  refine g_iloadn C dX0_doesClap_5 1 rfl rfl ?_
  refine g_ishl C dX0_doesClap_6 ?_
  refine g_iand C dX0_doesClap_7 ?_
  refine g_if_eq C 15 dX0_doesClap_8 rfl (fun c_8 => ?_) (fun c_8 => ?_)
  · refine g_iconst C 0 dX0_doesClap_15 (by decide) ?_
    exact g_zret C () hr rfl dX0_doesClap_16 (Nat.le_of_ble_eq_true rfl) (Nat.le_of_ble_eq_true rfl) rfl ((bI_n ((cl_bit hG ho).mp c_8)).symm)
  · refine g_iconst C 1 dX0_doesClap_11 (by decide) ?_
    refine g_goto C 16 dX0_doesClap_12 rfl ?_
    exact g_zret C () hr rfl dX0_doesClap_16 (Nat.le_of_ble_eq_true rfl) (Nat.le_of_ble_eq_true rfl) rfl ((bI_t (Decidable.not_not.mp (fun z => c_8 ((cl_bit hG ho).mpr z)))).symm)

set_option maxRecDepth 100000 in
set_option maxHeartbeats 4000000 in
theorem k_X0_letClap (l : Launch) (D : va_G) (q : Nat → ClassId) (tt : Nat → Nat) (a : Nat → Nat) (h : HC) (x : Int32) (z : Int32)  : MV l D q tt yX0_letClap wsX0_letClap ({ frames := 0, cells := 0, slots := 0, locals := 0 } : Room) [.ref (a 0), .int x, .int z] (hw q a h) (fun (u : Unit) => True) (fun (_ : Unit) => (hw q a ((hL h), (hK h), (hP h), (hE h), (hR h), (hN h), (ltC (hC h) x z), (hM h), (hZ h), (hJ h), (hH h)))) 0 0 := by
  refine MV.of RX0 [(0, .ref (a 0)), (1, .int x), (2, .int z)] (by decide) rfl rfl (Nat.le_of_ble_eq_true rfl) rfl ?_
  intro p e s m args below meth c A C hr hnm
  have w_0 : ∀ w ∈ u_ws RX0 TX0 11, w ∈ wsX0_letClap := by decide +kernel
  have w_1 : Cond.fieldLink RX0 52 (TX0 6).1 (TX0 6).2.1 (TX0 6).2.2.1 ∈ wsX0_letClap := by decide +kernel
  refine g_aloadn C dX0_letClap_0 0 rfl rfl ?_
  refine g_iloadn C dX0_letClap_1 2 rfl rfl ?_
  refine g_if_eq C 16 dX0_letClap_2 rfl (fun c_2 => ?_) (fun c_2 => ?_)
  · refine g_aloadn C dX0_letClap_16 0 rfl rfl ?_
    refine g_get C fx0 w_0 0 6 (v := .int (hC h)) rfl (by decide) w_1 rfl dX0_letClap_17 ?_
    refine g_iconst C 1 dX0_letClap_20 (by decide) ?_
    refine g_iloadn C dX0_letClap_21 1 rfl rfl ?_
    refine g_ishl C dX0_letClap_22 ?_
    refine g_iconst C (-1) dX0_letClap_23 (by decide) ?_
    refine g_ixor C dX0_letClap_24 ?_
    refine g_iand C dX0_letClap_25 ?_
    refine g_topci (ltC (hC h) x z) (by unfold ltC; rw [if_pos c_2]) ?_
    refine g_put C fx0 w_0 0 6 rfl (by decide) w_1 rfl rfl rfl (Nat.le_of_ble_eq_true rfl) dX0_letClap_26 (hw q a ((hL h), (hK h), (hP h), (hE h), (hR h), (hN h), (ltC (hC h) x z), (hM h), (hZ h), (hJ h), (hH h))) rfl ?_
    exact g_vret C () hr dX0_letClap_29 (Nat.le_of_ble_eq_true rfl) (Nat.le_of_ble_eq_true rfl) rfl (trivial)
  · refine g_aloadn C dX0_letClap_5 0 rfl rfl ?_
    refine g_get C fx0 w_0 0 6 (v := .int (hC h)) rfl (by decide) w_1 rfl dX0_letClap_6 ?_
    refine g_iconst C 1 dX0_letClap_9 (by decide) ?_
    refine g_iloadn C dX0_letClap_10 1 rfl rfl ?_
    refine g_ishl C dX0_letClap_11 ?_
    refine g_ior C dX0_letClap_12 ?_
    refine g_goto C 26 dX0_letClap_13 rfl ?_
    refine g_topci (ltC (hC h) x z) (by unfold ltC; rw [if_neg c_2]) ?_
    refine g_put C fx0 w_0 0 6 rfl (by decide) w_1 rfl rfl rfl (Nat.le_of_ble_eq_true rfl) dX0_letClap_26 (hw q a ((hL h), (hK h), (hP h), (hE h), (hR h), (hN h), (ltC (hC h) x z), (hM h), (hZ h), (hJ h), (hH h))) rfl ?_
    exact g_vret C () hr dX0_letClap_29 (Nat.le_of_ble_eq_true rfl) (Nat.le_of_ble_eq_true rfl) rfl (trivial)

set_option maxRecDepth 100000 in
set_option maxHeartbeats 4000000 in
theorem k_X0_everybody (l : Launch) (D : va_G) (q : Nat → ClassId) (tt : Nat → Nat) (a : Nat → Nat) (h : HC)  : MI l D q tt yX0_everybody wsX0_everybody ({ frames := 0, cells := 0, slots := 0, locals := 0 } : Room) [.ref (a 0)] (hw q a h) (fun (r : Int32) (u : Unit) => r = (((1 <<< ((hN h) &&& 31)) - 1))) (fun (_ : Unit) => (hw q a h)) 0 0 := by
  refine MI.of RX0 [(0, .ref (a 0))] (by decide) rfl rfl (Nat.le_of_ble_eq_true rfl) rfl ?_
  intro p e s m args below meth c A C hr hnm
  have w_0 : ∀ w ∈ u_ws RX0 TX0 11, w ∈ wsX0_everybody := by decide +kernel
  have w_1 : Cond.fieldLink RX0 49 (TX0 5).1 (TX0 5).2.1 (TX0 5).2.2.1 ∈ wsX0_everybody := by decide +kernel
  refine g_iconst C 1 dX0_everybody_0 (by decide) ?_
  refine g_aloadn C dX0_everybody_1 0 rfl rfl ?_
  refine g_get C fx0 w_0 0 5 (v := .int (hN h)) rfl (by decide) w_1 rfl dX0_everybody_2 ?_
  refine g_ishl C dX0_everybody_5 ?_
  refine g_iconst C 1 dX0_everybody_6 (by decide) ?_
  refine g_isub C dX0_everybody_7 ?_
  exact g_iret C () hr dX0_everybody_8 (Nat.le_of_ble_eq_true rfl) (Nat.le_of_ble_eq_true rfl) rfl (rfl)

set_option maxRecDepth 100000 in
set_option maxHeartbeats 4000000 in
theorem k_X0_inside (l : Launch) (D : va_G) (q : Nat → ClassId) (tt : Nat → Nat) (a : Nat → Nat) (h : HC) (S : Nat → Int32) (N : Nat) (x : Int32) (hG : Gd S N) (rS : HR S N h) : MI l D q tt yX0_inside wsX0_inside ({ frames := 0, cells := 0, slots := 0, locals := 0 } : Room) [.ref (a 0), .int x] (hw q a h) (fun (r : Int32) (u : Unit) => r = (orI (thT S x) N)) (fun (_ : Unit) => (hw q a h)) 0 0 := by
  refine MI.of RX0 [(0, .ref (a 0)), (1, .int x)] (by decide) rfl rfl (Nat.le_of_ble_eq_true rfl) rfl ?_
  intro p e s m args below meth c A C hr hnm
  have w_0 : ∀ w ∈ u_ws RX0 TX0 11, w ∈ wsX0_inside := by decide +kernel
  have w_1 : Cond.fieldLink RX0 49 (TX0 5).1 (TX0 5).2.1 (TX0 5).2.2.1 ∈ wsX0_inside := by decide +kernel
  have w_2 : Cond.fieldLink RX0 24 (TX0 4).1 (TX0 4).2.1 (TX0 4).2.2.1 ∈ wsX0_inside := by decide +kernel
  have h8 := hG.le
  refine g_iconst C 0 dX0_inside_0 (by decide) ?_
  refine g_istoren C [(2, .int 0), (0, .ref (a 0)), (1, .int x)] dX0_inside_1 rfl (by decide) rfl ?_
  refine g_iconst C 0 dX0_inside_2 (by decide) ?_
  refine g_istoren C [(3, .int 0), (2, .int 0), (0, .ref (a 0)), (1, .int x)] dX0_inside_3 rfl (by decide) rfl ?_
  have J_4 : ∀ (fu : Nat) (i : Nat), N - i < fu → (i ≤ N) → G p l e ({ frames := 0, cells := 0, slots := 0, locals := 0 } : Room) s m args below meth c 4 D A (MQ below (va_Qi (fun (r : Int32) (u : Unit) => r = (orI (thT S x) N)) (Bw D A (fun (_ : Unit) => (hw q a h))) A) args s 0 0 A) 4 [(0, .ref (a 0)), (1, .int x), (2, .int (orI (thT S x) i)), (3, .int (nI i))] [] (hw q a h) 0 0 := by
    intro fu
    induction fu with
    | zero =>
      intro i hfu
      exact absurd hfu (Nat.not_lt_zero _)
    | succ fu ih =>
      intro i hfu hi
      refine g_iloadn C dX0_inside_4 3 rfl rfl ?_
      refine g_aloadn C dX0_inside_5 0 rfl rfl ?_
      refine g_get C fx0 w_0 0 5 (v := .int (hN h)) rfl (by decide) w_1 rfl dX0_inside_6 ?_
      refine g_topci (nI N) (rS.n hG) ?_
      refine g_icmpN_ge C 34 (i) (N) dX0_inside_9 rfl (by omega) (by omega) (fun c_9 => ?_) (fun c_9 => ?_)
      · refine g_iloadn C dX0_inside_34 2 rfl rfl ?_
        exact g_iret C () hr dX0_inside_35 (Nat.le_of_ble_eq_true rfl) (Nat.le_of_ble_eq_true rfl) rfl (by have e : i = N := (by omega); rw [e])
      · refine g_aloadn C dX0_inside_12 0 rfl rfl ?_
        refine g_get C fx0 w_0 0 4 (v := .ref (a 5)) rfl (by decide) w_2 rfl dX0_inside_13 ?_
        refine g_iloadn C dX0_inside_16 3 rfl rfl ?_
        refine g_iald C 5 (i) (f := (hR h)) rfl rfl (by omega) (by decide) dX0_inside_17 ?_
        refine g_topci (sR S i) (rS.R (by omega)) ?_
        refine g_iloadn C dX0_inside_18 1 rfl rfl ?_
        refine g_icmp_ne C 28 dX0_inside_19 rfl (fun c_19 => ?_) (fun c_19 => ?_)
        · rw [show (orI (thT S x) i) = (orI (thT S x) (i + 1)) from by show _ = orI _ i ||| _; unfold thT; rw [if_neg c_19]; simp]
          refine g_iinc C (nI (i + 1)) [(3, .int (nI (i + 1))), (0, .ref (a 0)), (1, .int x), (2, .int (orI (thT S x) (i + 1)))] dX0_inside_28 3 rfl (nI_add i 1) (by decide) rfl ?_
          refine g_goto C 4 dX0_inside_31 rfl ?_
          refine g_sub [1, 2, 3, 0] (lv' := [(0, .ref (a 0)), (1, .int x), (2, .int (orI (thT S x) (i + 1))), (3, .int (nI (i + 1)))]) rfl ?_
          exact ih ((i + 1)) (by omega) (by first | assumption | omega)
        · refine g_iloadn C dX0_inside_22 2 rfl rfl ?_
          refine g_iconst C 1 dX0_inside_23 (by decide) ?_
          refine g_iloadn C dX0_inside_24 3 rfl rfl ?_
          refine g_ishl C dX0_inside_25 ?_
          refine g_ior C dX0_inside_26 ?_
          refine g_topci (orI (thT S x) (i + 1)) (by show _ = orI _ i ||| thT _ _ i; unfold thT; rw [if_pos c_19]) ?_
          refine g_istoren C [(2, .int (orI (thT S x) (i + 1))), (0, .ref (a 0)), (1, .int x), (3, .int (nI i))] dX0_inside_27 rfl (by decide) rfl ?_
          refine g_iinc C (nI (i + 1)) [(3, .int (nI (i + 1))), (2, .int (orI (thT S x) (i + 1))), (0, .ref (a 0)), (1, .int x)] dX0_inside_28 3 rfl (nI_add i 1) (by decide) rfl ?_
          refine g_goto C 4 dX0_inside_31 rfl ?_
          refine g_sub [2, 3, 1, 0] (lv' := [(0, .ref (a 0)), (1, .int x), (2, .int (orI (thT S x) (i + 1))), (3, .int (nI (i + 1)))]) rfl ?_
          exact ih ((i + 1)) (by omega) (by first | assumption | omega)
  refine g_sub [2, 3, 1, 0] (lv' := [(0, .ref (a 0)), (1, .int x), (2, .int 0), (3, .int 0)]) rfl ?_
  exact J_4 _ (0) (Nat.lt_succ_self _) (by first | assumption | omega)

set_option maxRecDepth 100000 in
set_option maxHeartbeats 4000000 in
theorem k_X0_roomsTaken (l : Launch) (D : va_G) (q : Nat → ClassId) (tt : Nat → Nat) (a : Nat → Nat) (h : HC) (S : Nat → Int32) (N : Nat) (hG : Gd S N) (rS : HR S N h) : MI l D q tt yX0_roomsTaken wsX0_roomsTaken ({ frames := 0, cells := 0, slots := 0, locals := 0 } : Room) [.ref (a 0)] (hw q a h) (fun (r : Int32) (u : Unit) => r = (orI (rtT S) N)) (fun (_ : Unit) => (hw q a h)) 0 0 := by
  refine MI.of RX0 [(0, .ref (a 0))] (by decide) rfl rfl (Nat.le_of_ble_eq_true rfl) rfl ?_
  intro p e s m args below meth c A C hr hnm
  have w_0 : ∀ w ∈ u_ws RX0 TX0 11, w ∈ wsX0_roomsTaken := by decide +kernel
  have w_1 : Cond.fieldLink RX0 49 (TX0 5).1 (TX0 5).2.1 (TX0 5).2.2.1 ∈ wsX0_roomsTaken := by decide +kernel
  have w_2 : Cond.fieldLink RX0 24 (TX0 4).1 (TX0 4).2.1 (TX0 4).2.2.1 ∈ wsX0_roomsTaken := by decide +kernel
  have h8 := hG.le
  refine g_iconst C 0 dX0_roomsTaken_0 (by decide) ?_
  refine g_istoren C [(1, .int 0), (0, .ref (a 0))] dX0_roomsTaken_1 rfl (by decide) rfl ?_
  refine g_iconst C 0 dX0_roomsTaken_2 (by decide) ?_
  refine g_istoren C [(2, .int 0), (1, .int 0), (0, .ref (a 0))] dX0_roomsTaken_3 rfl (by decide) rfl ?_
  have J_4 : ∀ (fu : Nat) (i : Nat), N - i < fu → (i ≤ N) → G p l e ({ frames := 0, cells := 0, slots := 0, locals := 0 } : Room) s m args below meth c 3 D A (MQ below (va_Qi (fun (r : Int32) (u : Unit) => r = (orI (rtT S) N)) (Bw D A (fun (_ : Unit) => (hw q a h))) A) args s 0 0 A) 4 [(0, .ref (a 0)), (1, .int (orI (rtT S) i)), (2, .int (nI i))] [] (hw q a h) 0 0 := by
    intro fu
    induction fu with
    | zero =>
      intro i hfu
      exact absurd hfu (Nat.not_lt_zero _)
    | succ fu ih =>
      intro i hfu hi
      refine g_iloadn C dX0_roomsTaken_4 2 rfl rfl ?_
      refine g_aloadn C dX0_roomsTaken_5 0 rfl rfl ?_
      refine g_get C fx0 w_0 0 5 (v := .int (hN h)) rfl (by decide) w_1 rfl dX0_roomsTaken_6 ?_
      refine g_topci (nI N) (rS.n hG) ?_
      refine g_icmpN_ge C 29 (i) (N) dX0_roomsTaken_9 rfl (by omega) (by omega) (fun c_9 => ?_) (fun c_9 => ?_)
      · refine g_iloadn C dX0_roomsTaken_29 1 rfl rfl ?_
        exact g_iret C () hr dX0_roomsTaken_30 (Nat.le_of_ble_eq_true rfl) (Nat.le_of_ble_eq_true rfl) rfl (by have e : i = N := (by omega); rw [e])
      · refine g_iloadn C dX0_roomsTaken_12 1 rfl rfl ?_
        refine g_iconst C 1 dX0_roomsTaken_13 (by decide) ?_
        refine g_aloadn C dX0_roomsTaken_14 0 rfl rfl ?_
        refine g_get C fx0 w_0 0 4 (v := .ref (a 5)) rfl (by decide) w_2 rfl dX0_roomsTaken_15 ?_
        refine g_iloadn C dX0_roomsTaken_18 2 rfl rfl ?_
        refine g_iald C 5 (i) (f := (hR h)) rfl rfl (by omega) (by decide) dX0_roomsTaken_19 ?_
        refine g_topci (sR S i) (rS.R (by omega)) ?_
        refine g_ishl C dX0_roomsTaken_20 ?_
        refine g_ior C dX0_roomsTaken_21 ?_
        refine g_topci (orI (rtT S) (i + 1)) (rfl) ?_
        refine g_istoren C [(1, .int (orI (rtT S) (i + 1))), (0, .ref (a 0)), (2, .int (nI i))] dX0_roomsTaken_22 rfl (by decide) rfl ?_
        refine g_iinc C (nI (i + 1)) [(2, .int (nI (i + 1))), (1, .int (orI (rtT S) (i + 1))), (0, .ref (a 0))] dX0_roomsTaken_23 2 rfl (nI_add i 1) (by decide) rfl ?_
        refine g_goto C 4 dX0_roomsTaken_26 rfl ?_
        refine g_sub [2, 1, 0] (lv' := [(0, .ref (a 0)), (1, .int (orI (rtT S) (i + 1))), (2, .int (nI (i + 1)))]) rfl ?_
        exact ih ((i + 1)) (by omega) (by first | assumption | omega)
  refine g_sub [2, 1, 0] (lv' := [(0, .ref (a 0)), (1, .int 0), (2, .int 0)]) rfl ?_
  exact J_4 _ (0) (Nat.lt_succ_self _) (by first | assumption | omega)

set_option maxRecDepth 100000 in
set_option maxHeartbeats 4000000 in
theorem k_X0_proudest (l : Launch) (D : va_G) (q : Nat → ClassId) (tt : Nat → Nat) (a : Nat → Nat) (h : HC) (S : Nat → Int32) (N : Nat) (hG : Gd S N) (rS : HR S N h) : MI l D q tt yX0_proudest wsX0_proudest ({ frames := 0, cells := 0, slots := 0, locals := 0 } : Room) [.ref (a 0)] (hw q a h) (fun (r : Int32) (u : Unit) => r = (sumI (p99T S) N)) (fun (_ : Unit) => (hw q a h)) 0 0 := by
  refine MI.of RX0 [(0, .ref (a 0))] (by decide) rfl rfl (Nat.le_of_ble_eq_true rfl) rfl ?_
  intro p e s m args below meth c A C hr hnm
  have w_0 : ∀ w ∈ u_ws RX0 TX0 11, w ∈ wsX0_proudest := by decide +kernel
  have w_1 : Cond.fieldLink RX0 49 (TX0 5).1 (TX0 5).2.1 (TX0 5).2.2.1 ∈ wsX0_proudest := by decide +kernel
  have w_2 : Cond.fieldLink RX0 18 (TX0 2).1 (TX0 2).2.1 (TX0 2).2.2.1 ∈ wsX0_proudest := by decide +kernel
  have h8 := hG.le
  refine g_iconst C 0 dX0_proudest_0 (by decide) ?_
  refine g_istoren C [(1, .int 0), (0, .ref (a 0))] dX0_proudest_1 rfl (by decide) rfl ?_
  refine g_iconst C 0 dX0_proudest_2 (by decide) ?_
  refine g_istoren C [(2, .int 0), (1, .int 0), (0, .ref (a 0))] dX0_proudest_3 rfl (by decide) rfl ?_
  have J_4 : ∀ (fu : Nat) (i : Nat), N - i < fu → (i ≤ N) → G p l e ({ frames := 0, cells := 0, slots := 0, locals := 0 } : Room) s m args below meth c 3 D A (MQ below (va_Qi (fun (r : Int32) (u : Unit) => r = (sumI (p99T S) N)) (Bw D A (fun (_ : Unit) => (hw q a h))) A) args s 0 0 A) 4 [(0, .ref (a 0)), (1, .int (sumI (p99T S) i)), (2, .int (nI i))] [] (hw q a h) 0 0 := by
    intro fu
    induction fu with
    | zero =>
      intro i hfu
      exact absurd hfu (Nat.not_lt_zero _)
    | succ fu ih =>
      intro i hfu hi
      refine g_iloadn C dX0_proudest_4 2 rfl rfl ?_
      refine g_aloadn C dX0_proudest_5 0 rfl rfl ?_
      refine g_get C fx0 w_0 0 5 (v := .int (hN h)) rfl (by decide) w_1 rfl dX0_proudest_6 ?_
      refine g_topci (nI N) (rS.n hG) ?_
      refine g_icmpN_ge C 32 (i) (N) dX0_proudest_9 rfl (by omega) (by omega) (fun c_9 => ?_) (fun c_9 => ?_)
      · refine g_iloadn C dX0_proudest_32 1 rfl rfl ?_
        exact g_iret C () hr dX0_proudest_33 (Nat.le_of_ble_eq_true rfl) (Nat.le_of_ble_eq_true rfl) rfl (by have e : i = N := (by omega); rw [e])
      · refine g_aloadn C dX0_proudest_12 0 rfl rfl ?_
        refine g_get C fx0 w_0 0 2 (v := .ref (a 3)) rfl (by decide) w_2 rfl dX0_proudest_13 ?_
        refine g_iloadn C dX0_proudest_16 2 rfl rfl ?_
        refine g_iald C 3 (i) (f := (hP h)) rfl rfl (by omega) (by decide) dX0_proudest_17 ?_
        refine g_topci (sP S i) (rS.P (by omega)) ?_
        refine g_bipush C 99 dX0_proudest_18 (by decide) ?_
        refine g_icmp_ne C 26 dX0_proudest_20 rfl (fun c_20 => ?_) (fun c_20 => ?_)
        · refine g_lvc 1 (lv' := [(0, .ref (a 0)), (1, .int (sumI (p99T S) (i + 1))), (2, .int (nI i))]) (by rw [show (sumI (p99T S) i) = (sumI (p99T S) (i + 1)) from by show _ = sumI _ i + p99T S i; unfold p99T; rw [if_neg c_20]; simp]) ?_
          refine g_iinc C (nI (i + 1)) [(2, .int (nI (i + 1))), (0, .ref (a 0)), (1, .int (sumI (p99T S) (i + 1)))] dX0_proudest_26 2 rfl (nI_add i 1) (by decide) rfl ?_
          refine g_goto C 4 dX0_proudest_29 rfl ?_
          refine g_sub [1, 2, 0] (lv' := [(0, .ref (a 0)), (1, .int (sumI (p99T S) (i + 1))), (2, .int (nI (i + 1)))]) rfl ?_
          exact ih ((i + 1)) (by omega) (by first | assumption | omega)
        · refine g_iinc C ((sumI (p99T S) i) + 1) [(1, .int ((sumI (p99T S) i) + 1)), (0, .ref (a 0)), (2, .int (nI i))] dX0_proudest_23 1 rfl rfl (by decide) rfl ?_
          refine g_lvc 0 (lv' := [(1, .int (sumI (p99T S) (i + 1))), (0, .ref (a 0)), (2, .int (nI i))]) (by rw [show ((sumI (p99T S) i) + 1) = (sumI (p99T S) (i + 1)) from by show _ = sumI _ i + p99T S i; unfold p99T; rw [if_pos c_20]]) ?_
          refine g_iinc C (nI (i + 1)) [(2, .int (nI (i + 1))), (1, .int (sumI (p99T S) (i + 1))), (0, .ref (a 0))] dX0_proudest_26 2 rfl (nI_add i 1) (by decide) rfl ?_
          refine g_goto C 4 dX0_proudest_29 rfl ?_
          refine g_sub [2, 1, 0] (lv' := [(0, .ref (a 0)), (1, .int (sumI (p99T S) (i + 1))), (2, .int (nI (i + 1)))]) rfl ?_
          exact ih ((i + 1)) (by omega) (by first | assumption | omega)
  refine g_sub [2, 1, 0] (lv' := [(0, .ref (a 0)), (1, .int 0), (2, .int 0)]) rfl ?_
  exact J_4 _ (0) (Nat.lt_succ_self _) (by first | assumption | omega)

set_option maxRecDepth 100000 in
set_option maxHeartbeats 4000000 in
theorem k_X0_sumP (l : Launch) (D : va_G) (q : Nat → ClassId) (tt : Nat → Nat) (a : Nat → Nat) (h : HC) (S : Nat → Int32) (N : Nat) (hG : Gd S N) (rS : HR S N h) : MI l D q tt yX0_sum wsX0_sum ({ frames := 0, cells := 0, slots := 0, locals := 0 } : Room) [.ref (a 0), .ref (a 3)] (hw q a h) (fun (r : Int32) (u : Unit) => r = (sumI (sP S) N)) (fun (_ : Unit) => (hw q a h)) 0 0 := by
  refine MI.of RX0 [(0, .ref (a 0)), (1, .ref (a 3))] (by decide) rfl rfl (Nat.le_of_ble_eq_true rfl) rfl ?_
  intro p e s m args below meth c A C hr hnm
  have w_0 : ∀ w ∈ u_ws RX0 TX0 11, w ∈ wsX0_sum := by decide +kernel
  have w_1 : Cond.fieldLink RX0 49 (TX0 5).1 (TX0 5).2.1 (TX0 5).2.2.1 ∈ wsX0_sum := by decide +kernel
  have h8 := hG.le
  refine g_iconst C 0 dX0_sum_0 (by decide) ?_
  refine g_istoren C [(2, .int 0), (0, .ref (a 0)), (1, .ref (a 3))] dX0_sum_1 rfl (by decide) rfl ?_
  refine g_iconst C 0 dX0_sum_2 (by decide) ?_
  refine g_istoren C [(3, .int 0), (2, .int 0), (0, .ref (a 0)), (1, .ref (a 3))] dX0_sum_3 rfl (by decide) rfl ?_
  have J_4 : ∀ (fu : Nat) (i : Nat), N - i < fu → (i ≤ N) → G p l e ({ frames := 0, cells := 0, slots := 0, locals := 0 } : Room) s m args below meth c 4 D A (MQ below (va_Qi (fun (r : Int32) (u : Unit) => r = (sumI (sP S) N)) (Bw D A (fun (_ : Unit) => (hw q a h))) A) args s 0 0 A) 4 [(0, .ref (a 0)), (1, .ref (a 3)), (2, .int (sumI (sP S) i)), (3, .int (nI i))] [] (hw q a h) 0 0 := by
    intro fu
    induction fu with
    | zero =>
      intro i hfu
      exact absurd hfu (Nat.not_lt_zero _)
    | succ fu ih =>
      intro i hfu hi
      refine g_iloadn C dX0_sum_4 3 rfl rfl ?_
      refine g_aloadn C dX0_sum_5 0 rfl rfl ?_
      refine g_get C fx0 w_0 0 5 (v := .int (hN h)) rfl (by decide) w_1 rfl dX0_sum_6 ?_
      refine g_topci (nI N) (rS.n hG) ?_
      refine g_icmpN_ge C 30 (i) (N) dX0_sum_9 rfl (by omega) (by omega) (fun c_9 => ?_) (fun c_9 => ?_)
      · refine g_iloadn C dX0_sum_30 2 rfl rfl ?_
        exact g_iret C () hr dX0_sum_31 (Nat.le_of_ble_eq_true rfl) (Nat.le_of_ble_eq_true rfl) rfl (by have e : i = N := (by omega); rw [e])
      · refine g_iloadn C dX0_sum_12 3 rfl rfl ?_
        refine g_aloadn C dX0_sum_13 1 rfl rfl ?_
        refine g_alen C 3 8 rfl (t0 := 0) rfl rfl dX0_sum_14 ?_
        refine g_icmpN_ge C 30 (i) (8) dX0_sum_15 rfl (by omega) (by omega) (fun c_15 => ?_) (fun c_15 => ?_)
        · refine g_iloadn C dX0_sum_30 2 rfl rfl ?_
          exact g_iret C () hr dX0_sum_31 (Nat.le_of_ble_eq_true rfl) (Nat.le_of_ble_eq_true rfl) rfl (by have e : i = N := (by omega); rw [e])
        · refine g_iloadn C dX0_sum_18 2 rfl rfl ?_
          refine g_aloadn C dX0_sum_19 1 rfl rfl ?_
          refine g_iloadn C dX0_sum_20 3 rfl rfl ?_
          refine g_iald C 3 (i) (f := (hP h)) rfl rfl (by omega) (by decide) dX0_sum_21 ?_
          refine g_topci (sP S i) (rS.P (by omega)) ?_
          refine g_iadd C dX0_sum_22 ?_
          refine g_topci (sumI (sP S) (i + 1)) (rfl) ?_
          refine g_istoren C [(2, .int (sumI (sP S) (i + 1))), (0, .ref (a 0)), (1, .ref (a 3)), (3, .int (nI i))] dX0_sum_23 rfl (by decide) rfl ?_
          refine g_iinc C (nI (i + 1)) [(3, .int (nI (i + 1))), (2, .int (sumI (sP S) (i + 1))), (0, .ref (a 0)), (1, .ref (a 3))] dX0_sum_24 3 rfl (nI_add i 1) (by decide) rfl ?_
          refine g_goto C 4 dX0_sum_27 rfl ?_
          refine g_sub [2, 3, 1, 0] (lv' := [(0, .ref (a 0)), (1, .ref (a 3)), (2, .int (sumI (sP S) (i + 1))), (3, .int (nI (i + 1)))]) rfl ?_
          exact ih ((i + 1)) (by omega) (by first | assumption | omega)
  refine g_sub [2, 3, 1, 0] (lv' := [(0, .ref (a 0)), (1, .ref (a 3)), (2, .int 0), (3, .int 0)]) rfl ?_
  exact J_4 _ (0) (Nat.lt_succ_self _) (by first | assumption | omega)

set_option maxRecDepth 100000 in
set_option maxHeartbeats 4000000 in
theorem k_X0_sumE (l : Launch) (D : va_G) (q : Nat → ClassId) (tt : Nat → Nat) (a : Nat → Nat) (h : HC) (S : Nat → Int32) (N : Nat) (hG : Gd S N) (rS : HR S N h) : MI l D q tt yX0_sum wsX0_sum ({ frames := 0, cells := 0, slots := 0, locals := 0 } : Room) [.ref (a 0), .ref (a 4)] (hw q a h) (fun (r : Int32) (u : Unit) => r = (sumI (sE S) N)) (fun (_ : Unit) => (hw q a h)) 0 0 := by
  refine MI.of RX0 [(0, .ref (a 0)), (1, .ref (a 4))] (by decide) rfl rfl (Nat.le_of_ble_eq_true rfl) rfl ?_
  intro p e s m args below meth c A C hr hnm
  have w_0 : ∀ w ∈ u_ws RX0 TX0 11, w ∈ wsX0_sum := by decide +kernel
  have w_1 : Cond.fieldLink RX0 49 (TX0 5).1 (TX0 5).2.1 (TX0 5).2.2.1 ∈ wsX0_sum := by decide +kernel
  have h8 := hG.le
  refine g_iconst C 0 dX0_sum_0 (by decide) ?_
  refine g_istoren C [(2, .int 0), (0, .ref (a 0)), (1, .ref (a 4))] dX0_sum_1 rfl (by decide) rfl ?_
  refine g_iconst C 0 dX0_sum_2 (by decide) ?_
  refine g_istoren C [(3, .int 0), (2, .int 0), (0, .ref (a 0)), (1, .ref (a 4))] dX0_sum_3 rfl (by decide) rfl ?_
  have J_4 : ∀ (fu : Nat) (i : Nat), N - i < fu → (i ≤ N) → G p l e ({ frames := 0, cells := 0, slots := 0, locals := 0 } : Room) s m args below meth c 4 D A (MQ below (va_Qi (fun (r : Int32) (u : Unit) => r = (sumI (sE S) N)) (Bw D A (fun (_ : Unit) => (hw q a h))) A) args s 0 0 A) 4 [(0, .ref (a 0)), (1, .ref (a 4)), (2, .int (sumI (sE S) i)), (3, .int (nI i))] [] (hw q a h) 0 0 := by
    intro fu
    induction fu with
    | zero =>
      intro i hfu
      exact absurd hfu (Nat.not_lt_zero _)
    | succ fu ih =>
      intro i hfu hi
      refine g_iloadn C dX0_sum_4 3 rfl rfl ?_
      refine g_aloadn C dX0_sum_5 0 rfl rfl ?_
      refine g_get C fx0 w_0 0 5 (v := .int (hN h)) rfl (by decide) w_1 rfl dX0_sum_6 ?_
      refine g_topci (nI N) (rS.n hG) ?_
      refine g_icmpN_ge C 30 (i) (N) dX0_sum_9 rfl (by omega) (by omega) (fun c_9 => ?_) (fun c_9 => ?_)
      · refine g_iloadn C dX0_sum_30 2 rfl rfl ?_
        exact g_iret C () hr dX0_sum_31 (Nat.le_of_ble_eq_true rfl) (Nat.le_of_ble_eq_true rfl) rfl (by have e : i = N := (by omega); rw [e])
      · refine g_iloadn C dX0_sum_12 3 rfl rfl ?_
        refine g_aloadn C dX0_sum_13 1 rfl rfl ?_
        refine g_alen C 4 8 rfl (t0 := 0) rfl rfl dX0_sum_14 ?_
        refine g_icmpN_ge C 30 (i) (8) dX0_sum_15 rfl (by omega) (by omega) (fun c_15 => ?_) (fun c_15 => ?_)
        · refine g_iloadn C dX0_sum_30 2 rfl rfl ?_
          exact g_iret C () hr dX0_sum_31 (Nat.le_of_ble_eq_true rfl) (Nat.le_of_ble_eq_true rfl) rfl (by have e : i = N := (by omega); rw [e])
        · refine g_iloadn C dX0_sum_18 2 rfl rfl ?_
          refine g_aloadn C dX0_sum_19 1 rfl rfl ?_
          refine g_iloadn C dX0_sum_20 3 rfl rfl ?_
          refine g_iald C 4 (i) (f := (hE h)) rfl rfl (by omega) (by decide) dX0_sum_21 ?_
          refine g_topci (sE S i) (rS.E (by omega)) ?_
          refine g_iadd C dX0_sum_22 ?_
          refine g_topci (sumI (sE S) (i + 1)) (rfl) ?_
          refine g_istoren C [(2, .int (sumI (sE S) (i + 1))), (0, .ref (a 0)), (1, .ref (a 4)), (3, .int (nI i))] dX0_sum_23 rfl (by decide) rfl ?_
          refine g_iinc C (nI (i + 1)) [(3, .int (nI (i + 1))), (2, .int (sumI (sE S) (i + 1))), (0, .ref (a 0)), (1, .ref (a 4))] dX0_sum_24 3 rfl (nI_add i 1) (by decide) rfl ?_
          refine g_goto C 4 dX0_sum_27 rfl ?_
          refine g_sub [2, 3, 1, 0] (lv' := [(0, .ref (a 0)), (1, .ref (a 4)), (2, .int (sumI (sE S) (i + 1))), (3, .int (nI (i + 1)))]) rfl ?_
          exact ih ((i + 1)) (by omega) (by first | assumption | omega)
  refine g_sub [2, 3, 1, 0] (lv' := [(0, .ref (a 0)), (1, .ref (a 4)), (2, .int 0), (3, .int 0)]) rfl ?_
  exact J_4 _ (0) (Nat.lt_succ_self _) (by first | assumption | omega)

