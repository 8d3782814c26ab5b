set_option maxRecDepth 100000 in
set_option maxHeartbeats 4000000 in
theorem k_J6_bitCount_0f7a4 (l : Launch) (D : va_G) (q : Nat → ClassId) (tt : Nat → Nat) (k : Nat) (hk : k < 256) : MI l D q tt yJ6_bitCount_0f7a4 wsJ6_bitCount_0f7a4 ({ frames := 0, cells := 0, slots := 0, locals := 0 } : Room) [.int (nI k)] [] (fun (r : Int32) (u : Unit) => r = (nI (pop k))) (fun (_ : Unit) => []) 0 0 := by
  refine MI.of RJ6 [(0, .int (nI k))] (by decide) rfl rfl (Nat.le_of_ble_eq_true rfl) rfl ?_
  intro p e s m args below meth c A C hr hnm
  have w_0 : Cond.constant RJ6 265 (1431655765) ∈ wsJ6_bitCount_0f7a4 := by decide +kernel
  have w_1 : Cond.constant RJ6 266 (858993459) ∈ wsJ6_bitCount_0f7a4 := by decide +kernel
  have w_2 : Cond.constant RJ6 267 (252645135) ∈ wsJ6_bitCount_0f7a4 := by decide +kernel
  refine g_iloadn C dJ6_bitCount_0f7a4_0 0 rfl rfl ?_
  refine g_iloadn C dJ6_bitCount_0f7a4_1 0 rfl rfl ?_
  refine g_iconst C 1 dJ6_bitCount_0f7a4_2 (by decide) ?_
  refine g_iushr C dJ6_bitCount_0f7a4_3 ?_
  refine g_ldcw C (1431655765) dJ6_bitCount_0f7a4_4 w_0 ?_
  refine g_iand C dJ6_bitCount_0f7a4_7 ?_
  refine g_isub C dJ6_bitCount_0f7a4_8 ?_
  refine g_topi (fun t_8 e_8 => ?_)
  refine g_istoren C [(0, .int t_8)] dJ6_bitCount_0f7a4_9 rfl (by decide) rfl ?_
  refine g_iloadn C dJ6_bitCount_0f7a4_10 0 rfl rfl ?_
  refine g_ldcw C (858993459) dJ6_bitCount_0f7a4_11 w_1 ?_
  refine g_iand C dJ6_bitCount_0f7a4_14 ?_
  refine g_iloadn C dJ6_bitCount_0f7a4_15 0 rfl rfl ?_
  refine g_iconst C 2 dJ6_bitCount_0f7a4_16 (by decide) ?_
  refine g_iushr C dJ6_bitCount_0f7a4_17 ?_
  refine g_ldcw C (858993459) dJ6_bitCount_0f7a4_18 w_1 ?_
  refine g_iand C dJ6_bitCount_0f7a4_21 ?_
  refine g_iadd C dJ6_bitCount_0f7a4_22 ?_
  refine g_topi (fun t_22 e_22 => ?_)
  refine g_istoren C [(0, .int t_22)] dJ6_bitCount_0f7a4_23 rfl (by decide) rfl ?_
  refine g_iloadn C dJ6_bitCount_0f7a4_24 0 rfl rfl ?_
  refine g_iloadn C dJ6_bitCount_0f7a4_25 0 rfl rfl ?_
  refine g_iconst C 4 dJ6_bitCount_0f7a4_26 (by decide) ?_
  refine g_iushr C dJ6_bitCount_0f7a4_27 ?_
  refine g_iadd C dJ6_bitCount_0f7a4_28 ?_
  refine g_ldcw C (252645135) dJ6_bitCount_0f7a4_29 w_2 ?_
  refine g_iand C dJ6_bitCount_0f7a4_32 ?_
  refine g_topi (fun t_32 e_32 => ?_)
  refine g_istoren C [(0, .int t_32)] dJ6_bitCount_0f7a4_33 rfl (by decide) rfl ?_
  refine g_iloadn C dJ6_bitCount_0f7a4_34 0 rfl rfl ?_
  refine g_iloadn C dJ6_bitCount_0f7a4_35 0 rfl rfl ?_
  refine g_bipush C 8 dJ6_bitCount_0f7a4_36 (by decide) ?_
  refine g_iushr C dJ6_bitCount_0f7a4_38 ?_
  refine g_iadd C dJ6_bitCount_0f7a4_39 ?_
  refine g_topi (fun t_39 e_39 => ?_)
  refine g_istoren C [(0, .int t_39)] dJ6_bitCount_0f7a4_40 rfl (by decide) rfl ?_
  refine g_iloadn C dJ6_bitCount_0f7a4_41 0 rfl rfl ?_
  refine g_iloadn C dJ6_bitCount_0f7a4_42 0 rfl rfl ?_
  refine g_bipush C 16 dJ6_bitCount_0f7a4_43 (by decide) ?_
  refine g_iushr C dJ6_bitCount_0f7a4_45 ?_
  refine g_iadd C dJ6_bitCount_0f7a4_46 ?_
  refine g_topi (fun t_46 e_46 => ?_)
  refine g_istoren C [(0, .int t_46)] dJ6_bitCount_0f7a4_47 rfl (by decide) rfl ?_
  refine g_iloadn C dJ6_bitCount_0f7a4_48 0 rfl rfl ?_
  refine g_bipush C 63 dJ6_bitCount_0f7a4_49 (by decide) ?_
  refine g_iand C dJ6_bitCount_0f7a4_51 ?_
  exact g_iret C () hr dJ6_bitCount_0f7a4_52 (Nat.le_of_ble_eq_true rfl) (Nat.le_of_ble_eq_true rfl) rfl (by subst e_46; subst e_39; subst e_32; subst e_22; subst e_8; clear hr hnm C; revert hk; revert k; decide +kernel)

set_option maxRecDepth 100000 in
set_option maxHeartbeats 4000000 in
theorem k_X4_isLaw (l : Launch) (D : va_G) (q : Nat → ClassId) (tt : Nat → Nat) (x : Int32)  : MI l D q tt yX4_isLaw wsX4_isLaw ({ frames := 1, cells := 0, slots := 0, locals := 22 } : Room) [.int x] [] (fun (r : Int32) (u : Unit) => r = (bI (0 ≤ x ∧ x ≤ 3))) (fun (_ : Unit) => []) 0 0 := by
  refine MI.of RX4 [(0, .int x)] (by decide) rfl rfl (Nat.le_of_ble_eq_true rfl) rfl ?_
  intro p e s m args below meth c A C hr hnm
  refine g_iloadn C dX4_isLaw_0 0 rfl rfl ?_
  refine g_iconst C 0 dX4_isLaw_1 (by decide) ?_
  refine g_iconst C 3 dX4_isLaw_2 (by decide) ?_
  refine g_call0i C (rd_S C (k_X4_within l D q tt x 0 3 ) gX4_isLaw_X4_within rfl rfl rfl 3 ok_X4_within (rest := []) rfl rfl (Nat.le_of_ble_eq_true rfl) dX4_isLaw_3 ⟨(Nat.le_of_ble_eq_true rfl), (Nat.le_of_ble_eq_true rfl)⟩ ⟨(Nat.le_of_ble_eq_true rfl), (Nat.le_of_ble_eq_true rfl)⟩) (fun _ => rfl) (fun r_3 _ h_3 => ?_)
  obtain rfl := h_3
  exact g_zret C () hr bI_z dX4_isLaw_6 (Nat.le_of_ble_eq_true rfl) (Nat.le_of_ble_eq_true rfl) rfl (rfl)

set_option maxRecDepth 100000 in
set_option maxHeartbeats 4000000 in
theorem k_X4_isKind (l : Launch) (D : va_G) (q : Nat → ClassId) (tt : Nat → Nat) (x : Int32)  : MI l D q tt yX4_isKind wsX4_isKind ({ frames := 1, cells := 0, slots := 0, locals := 22 } : Room) [.int x] [] (fun (r : Int32) (u : Unit) => r = (bI (0 ≤ x ∧ x ≤ 5))) (fun (_ : Unit) => []) 0 0 := by
  refine MI.of RX4 [(0, .int x)] (by decide) rfl rfl (Nat.le_of_ble_eq_true rfl) rfl ?_
  intro p e s m args below meth c A C hr hnm
  refine g_iloadn C dX4_isKind_0 0 rfl rfl ?_
  refine g_iconst C 0 dX4_isKind_1 (by decide) ?_
  refine g_iconst C 5 dX4_isKind_2 (by decide) ?_
  refine g_call0i C (rd_S C (k_X4_within l D q tt x 0 5 ) gX4_isKind_X4_within rfl rfl rfl 3 ok_X4_within (rest := []) rfl rfl (Nat.le_of_ble_eq_true rfl) dX4_isKind_3 ⟨(Nat.le_of_ble_eq_true rfl), (Nat.le_of_ble_eq_true rfl)⟩ ⟨(Nat.le_of_ble_eq_true rfl), (Nat.le_of_ble_eq_true rfl)⟩) (fun _ => rfl) (fun r_3 _ h_3 => ?_)
  obtain rfl := h_3
  exact g_zret C () hr bI_z dX4_isKind_6 (Nat.le_of_ble_eq_true rfl) (Nat.le_of_ble_eq_true rfl) rfl (rfl)

set_option maxRecDepth 100000 in
set_option maxHeartbeats 4000000 in
theorem k_X4_isPride (l : Launch) (D : va_G) (q : Nat → ClassId) (tt : Nat → Nat) (x : Int32)  : MI l D q tt yX4_isPride wsX4_isPride ({ frames := 1, cells := 0, slots := 0, locals := 22 } : Room) [.int x] [] (fun (r : Int32) (u : Unit) => r = (bI (0 ≤ x ∧ x ≤ 99))) (fun (_ : Unit) => []) 0 0 := by
  refine MI.of RX4 [(0, .int x)] (by decide) rfl rfl (Nat.le_of_ble_eq_true rfl) rfl ?_
  intro p e s m args below meth c A C hr hnm
  refine g_iloadn C dX4_isPride_0 0 rfl rfl ?_
  refine g_iconst C 0 dX4_isPride_1 (by decide) ?_
  refine g_bipush C 99 dX4_isPride_2 (by decide) ?_
  refine g_call0i C (rd_S C (k_X4_within l D q tt x 0 99 ) gX4_isPride_X4_within rfl rfl rfl 3 ok_X4_within (rest := []) rfl rfl (Nat.le_of_ble_eq_true rfl) dX4_isPride_4 ⟨(Nat.le_of_ble_eq_true rfl), (Nat.le_of_ble_eq_true rfl)⟩ ⟨(Nat.le_of_ble_eq_true rfl), (Nat.le_of_ble_eq_true rfl)⟩) (fun _ => rfl) (fun r_4 _ h_4 => ?_)
  obtain rfl := h_4
  exact g_zret C () hr bI_z dX4_isPride_7 (Nat.le_of_ble_eq_true rfl) (Nat.le_of_ble_eq_true rfl) rfl (rfl)

set_option maxRecDepth 100000 in
set_option maxHeartbeats 4000000 in
theorem k_X4_isEar (l : Launch) (D : va_G) (q : Nat → ClassId) (tt : Nat → Nat) (x : Int32)  : MI l D q tt yX4_isEar wsX4_isEar ({ frames := 1, cells := 0, slots := 0, locals := 22 } : Room) [.int x] [] (fun (r : Int32) (u : Unit) => r = (bI (0 ≤ x ∧ x ≤ 9))) (fun (_ : Unit) => []) 0 0 := by
  refine MI.of RX4 [(0, .int x)] (by decide) rfl rfl (Nat.le_of_ble_eq_true rfl) rfl ?_
  intro p e s m args below meth c A C hr hnm
  refine g_iloadn C dX4_isEar_0 0 rfl rfl ?_
  refine g_iconst C 0 dX4_isEar_1 (by decide) ?_
  refine g_bipush C 9 dX4_isEar_2 (by decide) ?_
  refine g_call0i C (rd_S C (k_X4_within l D q tt x 0 9 ) gX4_isEar_X4_within rfl rfl rfl 3 ok_X4_within (rest := []) rfl rfl (Nat.le_of_ble_eq_true rfl) dX4_isEar_4 ⟨(Nat.le_of_ble_eq_true rfl), (Nat.le_of_ble_eq_true rfl)⟩ ⟨(Nat.le_of_ble_eq_true rfl), (Nat.le_of_ble_eq_true rfl)⟩) (fun _ => rfl) (fun r_4 _ h_4 => ?_)
  obtain rfl := h_4
  exact g_zret C () hr bI_z dX4_isEar_7 (Nat.le_of_ble_eq_true rfl) (Nat.le_of_ble_eq_true rfl) rfl (rfl)

set_option maxRecDepth 100000 in
set_option maxHeartbeats 4000000 in
theorem k_X4_isRoom (l : Launch) (D : va_G) (q : Nat → ClassId) (tt : Nat → Nat) (x : Int32)  : MI l D q tt yX4_isRoom wsX4_isRoom ({ frames := 1, cells := 0, slots := 0, locals := 22 } : Room) [.int x] [] (fun (r : Int32) (u : Unit) => r = (bI (0 ≤ x ∧ x ≤ 7))) (fun (_ : Unit) => []) 0 0 := by
  refine MI.of RX4 [(0, .int x)] (by decide) rfl rfl (Nat.le_of_ble_eq_true rfl) rfl ?_
  intro p e s m args below meth c A C hr hnm
  refine g_iloadn C dX4_isRoom_0 0 rfl rfl ?_
  refine g_iconst C 0 dX4_isRoom_1 (by decide) ?_
  refine g_bipush C 7 dX4_isRoom_2 (by decide) ?_
  refine g_call0i C (rd_S C (k_X4_within l D q tt x 0 7 ) gX4_isRoom_X4_within rfl rfl rfl 3 ok_X4_within (rest := []) rfl rfl (Nat.le_of_ble_eq_true rfl) dX4_isRoom_4 ⟨(Nat.le_of_ble_eq_true rfl), (Nat.le_of_ble_eq_true rfl)⟩ ⟨(Nat.le_of_ble_eq_true rfl), (Nat.le_of_ble_eq_true rfl)⟩) (fun _ => rfl) (fun r_4 _ h_4 => ?_)
  obtain rfl := h_4
  exact g_zret C () hr bI_z dX4_isRoom_7 (Nat.le_of_ble_eq_true rfl) (Nat.le_of_ble_eq_true rfl) rfl (rfl)

set_option maxRecDepth 100000 in
set_option maxHeartbeats 4000000 in
theorem k_X4_isPlace (l : Launch) (D : va_G) (q : Nat → ClassId) (tt : Nat → Nat) (x : Int32)  : MI l D q tt yX4_isPlace wsX4_isPlace ({ frames := 1, cells := 0, slots := 0, locals := 22 } : Room) [.int x] [] (fun (r : Int32) (u : Unit) => r = (bI (0 ≤ x ∧ x ≤ 3))) (fun (_ : Unit) => []) 0 0 := by
  refine MI.of RX4 [(0, .int x)] (by decide) rfl rfl (Nat.le_of_ble_eq_true rfl) rfl ?_
  intro p e s m args below meth c A C hr hnm
  refine g_iloadn C dX4_isPlace_0 0 rfl rfl ?_
  refine g_iconst C 0 dX4_isPlace_1 (by decide) ?_
  refine g_iconst C 3 dX4_isPlace_2 (by decide) ?_
  refine g_call0i C (rd_S C (k_X4_within l D q tt x 0 3 ) gX4_isPlace_X4_within rfl rfl rfl 3 ok_X4_within (rest := []) rfl rfl (Nat.le_of_ble_eq_true rfl) dX4_isPlace_3 ⟨(Nat.le_of_ble_eq_true rfl), (Nat.le_of_ble_eq_true rfl)⟩ ⟨(Nat.le_of_ble_eq_true rfl), (Nat.le_of_ble_eq_true rfl)⟩) (fun _ => rfl) (fun r_3 _ h_3 => ?_)
  obtain rfl := h_3
  exact g_zret C () hr bI_z dX4_isPlace_6 (Nat.le_of_ble_eq_true rfl) (Nat.le_of_ble_eq_true rfl) rfl (rfl)

set_option maxRecDepth 100000 in
set_option maxHeartbeats 4000000 in
theorem k_X0_passByDraws (l : Launch) (D : va_G) (q : Nat → ClassId) (tt : Nat → Nat) (a : Nat → Nat) (h : HC) (S : Nat → Int32) (N : Nat) (hG : Gd S N) (rS : HR S N h) : MV l D q tt yX0_passByDraws wsX0_passByDraws ({ frames := 3, cells := 0, slots := 0, locals := 67 } : Room) [.ref (a 0)] (hw q a h) (fun (u : HC) => HR (mnS S N) N u) (fun u => (hw q a u)) 0 0 := by
  refine MV.of RX0 [(0, .ref (a 0))] (by decide) rfl rfl (Nat.le_of_ble_eq_true rfl) rfl ?_
  intro p e s m args below meth c A C hr hnm
  have w_0 : ∀ w ∈ u_ws RX0 TX0 11, w ∈ wsX0_passByDraws := by decide +kernel
  have w_1 : Cond.fieldLink RX0 49 (TX0 5).1 (TX0 5).2.1 (TX0 5).2.2.1 ∈ wsX0_passByDraws := by decide +kernel
  have w_2 : Cond.fieldLink RX0 9 (TX0 0).1 (TX0 0).2.1 (TX0 0).2.2.1 ∈ wsX0_passByDraws := by decide +kernel
  have h8 := hG.le
  refine g_aloadn C dX0_passByDraws_0 0 rfl rfl ?_
  refine g_get C fx0 w_0 0 5 (v := .int (hN h)) rfl (by decide) w_1 rfl dX0_passByDraws_1 ?_
  refine g_topci (nI N) (rS.n hG) ?_
  refine g_ifN_le C 51 (N) dX0_passByDraws_4 rfl (by omega) (fun c_4 => ?_) (fun c_4 => ?_)
  · have hm_ : HR (mnS1 S N) N h := by unfold mnS1; rw [if_pos (show N = 0 by omega)]; exact rS
    refine g_aloadn C dX0_passByDraws_51 0 rfl rfl ?_
    refine g_callAv C (rd_V C (k_X0_passOne l D q tt a h (mnS1 S N) N hG.mn1 hm_) gX0_passByDraws_X0_passOne rfl rfl rfl 0 ok_X0_passOne rfl 0 rfl rfl (rest := []) rfl rfl (Nat.le_of_ble_eq_true rfl) dX0_passByDraws_52 ⟨(Nat.le_of_ble_eq_true rfl), (Nat.le_of_ble_eq_true rfl)⟩ ⟨(Nat.le_of_ble_eq_true rfl), (Nat.le_of_ble_eq_true rfl)⟩) (fun u_52 h_52 => ?_)
    have rS_52 := h_52
    exact g_vret C u_52 hr dX0_passByDraws_55 (Nat.le_of_ble_eq_true rfl) (Nat.le_of_ble_eq_true rfl) rfl (rS_52)
  · have h0 : 0 < N := by omega
    obtain ⟨d, hd, ed⟩ := rm_ix (zsS (S 2)) (N := N) h0 h8
    have ez : hZ h = S 2 := rS.z
    have rZ : HR (upd (upd S 2 (zsS (S 2))) 2 (zsS (zsS (S 2)))) N (hZ_ h (zsS (zsS (S 2)))) := hr_z (h := hZ_ h (zsS (S 2))) (zsS (zsS (S 2))) (hr_z (zsS (S 2)) rS)
    have eC : sC (upd (upd S 2 (zsS (S 2))) 2 (zsS (zsS (S 2)))) d = sC S d := (pk_un (by omega)).trans (pk_un (by omega))
    refine g_aloadn C dX0_passByDraws_7 0 rfl rfl ?_
    refine g_callAi C (rd_V C (k_X0_draw l D q tt a h ) gX0_passByDraws_X0_draw rfl rfl rfl 0 ok_X0_draw rfl 0 rfl rfl (rest := []) rfl rfl (Nat.le_of_ble_eq_true rfl) dX0_passByDraws_8 ⟨(Nat.le_of_ble_eq_true rfl), (Nat.le_of_ble_eq_true rfl)⟩ ⟨(Nat.le_of_ble_eq_true rfl), (Nat.le_of_ble_eq_true rfl)⟩) (fun r_8 _ h_8 => ?_)
    obtain rfl := h_8
    refine g_wsc (hw q a ((hL h), (hK h), (hP h), (hE h), (hR h), (hN h), (hC h), (hM h), (zsS (S 2)), (hJ h), (hH h))) (by rw [ez]) ?_
    refine g_topci (zrS (zsS (S 2))) (by rw [ez]) ?_
    refine g_aloadn C dX0_passByDraws_11 0 rfl rfl ?_
    refine g_get C fx0 w_0 0 5 (v := .int (hN h)) rfl (by decide) w_1 rfl dX0_passByDraws_12 ?_
    refine g_topci (nI N) (rS.n hG) ?_
    refine g_irem C dX0_passByDraws_15 (nI_ne0 h0 (by omega)) ?_
    refine g_topci (nI d) (ed) ?_
    refine g_istoren C [(1, .int (nI d)), (0, .ref (a 0))] dX0_passByDraws_16 rfl (by decide) rfl ?_
    refine g_aloadn C dX0_passByDraws_17 1 rfl rfl ?_
    refine g_callAi C (rd_V C (k_X0_draw l D q tt a ((hL h), (hK h), (hP h), (hE h), (hR h), (hN h), (hC h), (hM h), (zsS (S 2)), (hJ h), (hH h)) ) gX0_passByDraws_X0_draw rfl rfl rfl 0 ok_X0_draw rfl 0 rfl rfl (rest := []) rfl rfl (Nat.le_of_ble_eq_true rfl) dX0_passByDraws_18 ⟨(Nat.le_of_ble_eq_true rfl), (Nat.le_of_ble_eq_true rfl)⟩ ⟨(Nat.le_of_ble_eq_true rfl), (Nat.le_of_ble_eq_true rfl)⟩) (fun r_18 _ h_18 => ?_)
    obtain rfl := h_18
    refine g_wsc (hw q a ((hL h), (hK h), (hP h), (hE h), (hR h), (hN h), (hC h), (hM h), (zsS (zsS (S 2))), (hJ h), (hH h))) rfl ?_
    refine g_topci (zrS (zsS (zsS (S 2)))) rfl ?_
    refine g_wsc (hw q a ((hL h), (hK h), (hP h), (hE h), (hR h), (hN h), (hC h), (hM h), (zsS (zsS (S 2))), (hJ h), (hH h))) (rfl) ?_
    refine g_topci (zrS (zsS (zsS (S 2)))) (rfl) ?_
    refine g_bipush C 100 dX0_passByDraws_21 (by decide) ?_
    refine g_irem C dX0_passByDraws_23 (by decide) ?_
    refine g_aloadn C dX0_passByDraws_24 1 rfl rfl ?_
    refine g_get C fx0 w_0 0 0 (v := .ref (a 1)) rfl (by decide) w_2 rfl dX0_passByDraws_25 ?_
    refine g_iconst C 3 dX0_passByDraws_28 (by decide) ?_
    refine g_iald C 1 (3) (f := (hL h)) rfl rfl (by omega) (by decide) dX0_passByDraws_29 ?_
    refine g_topci (S 6) (rS.1 3 (by omega)) ?_
    refine g_icmp_ge C 51 dX0_passByDraws_30 rfl (fun c_30 => ?_) (fun c_30 => ?_)
    · have hm_ : HR (mnS1 S N) N ((hL h), (hK h), (hP h), (hE h), (hR h), (hN h), (hC h), (hM h), (zsS (zsS (S 2))), (hJ h), (hH h)) := by rw [mnS1_pos h0 (by omega) ed, if_neg (Int32.not_lt.mpr c_30)]; have := hr_c ((hG.z _).z _) rZ hd (hG.one hd).2.2; rw [ltC_same hG rS hd] at this; exact this
      refine g_aloadn C dX0_passByDraws_51 1 rfl rfl ?_
      refine g_callAv C (rd_V C (k_X0_passOne l D q tt a ((hL h), (hK h), (hP h), (hE h), (hR h), (hN h), (hC h), (hM h), (zsS (zsS (S 2))), (hJ h), (hH h)) (mnS1 S N) N hG.mn1 hm_) gX0_passByDraws_X0_passOne rfl rfl rfl 0 ok_X0_passOne rfl 0 rfl rfl (rest := []) rfl rfl (Nat.le_of_ble_eq_true rfl) dX0_passByDraws_52 ⟨(Nat.le_of_ble_eq_true rfl), (Nat.le_of_ble_eq_true rfl)⟩ ⟨(Nat.le_of_ble_eq_true rfl), (Nat.le_of_ble_eq_true rfl)⟩) (fun u_52 h_52 => ?_)
      have rS_52 := h_52
      refine g_wsc (hw q a u_52) rfl ?_
      exact g_vret C u_52 hr dX0_passByDraws_55 (Nat.le_of_ble_eq_true rfl) (Nat.le_of_ble_eq_true rfl) rfl (rS_52)
    · refine g_aloadn C dX0_passByDraws_33 1 rfl rfl ?_
      refine g_iloadn C dX0_passByDraws_34 0 rfl rfl ?_
      refine g_aloadn C dX0_passByDraws_35 1 rfl rfl ?_
      refine g_iloadn C dX0_passByDraws_36 0 rfl rfl ?_
      refine g_callAi C (rd_V C (k_X0_doesClap l D q tt a ((hL h), (hK h), (hP h), (hE h), (hR h), (hN h), (hC h), (hM h), (zsS (zsS (S 2))), (hJ h), (hH h)) (upd (upd S 2 (zsS (S 2))) 2 (zsS (zsS (S 2)))) N d ((hG.z _).z _) rZ hd) gX0_passByDraws_X0_doesClap rfl rfl rfl 1 ok_X0_doesClap rfl 0 rfl rfl (rest := [.int (nI d), .ref (a 0)]) rfl rfl (Nat.le_of_ble_eq_true rfl) dX0_passByDraws_37 ⟨(Nat.le_of_ble_eq_true rfl), (Nat.le_of_ble_eq_true rfl)⟩ ⟨(Nat.le_of_ble_eq_true rfl), (Nat.le_of_ble_eq_true rfl)⟩) (fun r_37 _ h_37 => ?_)
      obtain rfl := h_37
      refine g_topci (bI (sC (upd (upd S 2 (zsS (S 2))) 2 (zsS (zsS (S 2)))) d = 1)) rfl ?_
      refine g_ifneE C 47 dX0_passByDraws_40 rfl rfl (fun c_40 => ?_) (fun c_40 => ?_)
      · refine g_iconst C 0 dX0_passByDraws_47 (by decide) ?_
        refine g_callAv C (rd_V C (k_X0_letClap l D q tt a ((hL h), (hK h), (hP h), (hE h), (hR h), (hN h), (hC h), (hM h), (zsS (zsS (S 2))), (hJ h), (hH h)) (nI d) 0 ) gX0_passByDraws_X0_letClap rfl rfl rfl 2 ok_X0_letClap rfl 0 rfl rfl (rest := []) rfl rfl (Nat.le_of_ble_eq_true rfl) dX0_passByDraws_48 ⟨(Nat.le_of_ble_eq_true rfl), (Nat.le_of_ble_eq_true rfl)⟩ ⟨(Nat.le_of_ble_eq_true rfl), (Nat.le_of_ble_eq_true rfl)⟩) (fun _ h_48 => ?_)
        refine g_wsc (hw q a ((hL h), (hK h), (hP h), (hE h), (hR h), (hN h), (ltC (hC h) (nI d) 0), (hM h), (zsS (zsS (S 2))), (hJ h), (hH h))) rfl ?_
        have hm_ : HR (mnS1 S N) N ((hL h), (hK h), (hP h), (hE h), (hR h), (hN h), (ltC (hC h) (nI d) 0), (hM h), (zsS (zsS (S 2))), (hJ h), (hH h)) := by rw [mnS1_pos h0 (by omega) ed, if_pos (Int32.not_le.mp c_30)]; rw [eC] at c_40; rw [show sC S d = 1 from c_40]; exact hr_c ((hG.z _).z _) rZ hd (Or.inl rfl)
        refine g_aloadn C dX0_passByDraws_51 1 rfl rfl ?_
        refine g_callAv C (rd_V C (k_X0_passOne l D q tt a ((hL h), (hK h), (hP h), (hE h), (hR h), (hN h), (ltC (hC h) (nI d) 0), (hM h), (zsS (zsS (S 2))), (hJ h), (hH h)) (mnS1 S N) N hG.mn1 hm_) gX0_passByDraws_X0_passOne rfl rfl rfl 0 ok_X0_passOne rfl 0 rfl rfl (rest := []) rfl rfl (Nat.le_of_ble_eq_true rfl) dX0_passByDraws_52 ⟨(Nat.le_of_ble_eq_true rfl), (Nat.le_of_ble_eq_true rfl)⟩ ⟨(Nat.le_of_ble_eq_true rfl), (Nat.le_of_ble_eq_true rfl)⟩) (fun u_52 h_52 => ?_)
        have rS_52 := h_52
        refine g_wsc (hw q a u_52) rfl ?_
        exact g_vret C u_52 hr dX0_passByDraws_55 (Nat.le_of_ble_eq_true rfl) (Nat.le_of_ble_eq_true rfl) rfl (rS_52)
      · refine g_iconst C 1 dX0_passByDraws_43 (by decide) ?_
        refine g_goto C 48 dX0_passByDraws_44 rfl ?_
        refine g_callAv C (rd_V C (k_X0_letClap l D q tt a ((hL h), (hK h), (hP h), (hE h), (hR h), (hN h), (hC h), (hM h), (zsS (zsS (S 2))), (hJ h), (hH h)) (nI d) 1 ) gX0_passByDraws_X0_letClap rfl rfl rfl 2 ok_X0_letClap rfl 0 rfl rfl (rest := []) rfl rfl (Nat.le_of_ble_eq_true rfl) dX0_passByDraws_48 ⟨(Nat.le_of_ble_eq_true rfl), (Nat.le_of_ble_eq_true rfl)⟩ ⟨(Nat.le_of_ble_eq_true rfl), (Nat.le_of_ble_eq_true rfl)⟩) (fun _ h_48 => ?_)
        refine g_wsc (hw q a ((hL h), (hK h), (hP h), (hE h), (hR h), (hN h), (ltC (hC h) (nI d) 1), (hM h), (zsS (zsS (S 2))), (hJ h), (hH h))) rfl ?_
        have hm_ : HR (mnS1 S N) N ((hL h), (hK h), (hP h), (hE h), (hR h), (hN h), (ltC (hC h) (nI d) 1), (hM h), (zsS (zsS (S 2))), (hJ h), (hH h)) := by rw [mnS1_pos h0 (by omega) ed, if_pos (Int32.not_le.mp c_30)]; rw [eC] at c_40; rw [show sC S d = 0 from (hG.one hd).2.2.resolve_right c_40]; exact hr_c ((hG.z _).z _) rZ hd (Or.inr rfl)
        refine g_aloadn C dX0_passByDraws_51 1 rfl rfl ?_
        refine g_callAv C (rd_V C (k_X0_passOne l D q tt a ((hL h), (hK h), (hP h), (hE h), (hR h), (hN h), (ltC (hC h) (nI d) 1), (hM h), (zsS (zsS (S 2))), (hJ h), (hH h)) (mnS1 S N) N hG.mn1 hm_) gX0_passByDraws_X0_passOne rfl rfl rfl 0 ok_X0_passOne rfl 0 rfl rfl (rest := []) rfl rfl (Nat.le_of_ble_eq_true rfl) dX0_passByDraws_52 ⟨(Nat.le_of_ble_eq_true rfl), (Nat.le_of_ble_eq_true rfl)⟩ ⟨(Nat.le_of_ble_eq_true rfl), (Nat.le_of_ble_eq_true rfl)⟩) (fun u_52 h_52 => ?_)
        have rS_52 := h_52
        refine g_wsc (hw q a u_52) rfl ?_
        exact g_vret C u_52 hr dX0_passByDraws_55 (Nat.le_of_ble_eq_true rfl) (Nat.le_of_ble_eq_true rfl) rfl (rS_52)

set_option maxRecDepth 100000 in
set_option maxHeartbeats 4000000 in
theorem k_X0_become (l : Launch) (D : va_G) (q : Nat → ClassId) (tt : Nat → Nat) (a : Nat → Nat) (b : Nat → Nat) (h : HC) (g : HC)  : MV l D q tt yX0_become wsX0_become ({ frames := 1, cells := 0, slots := 0, locals := 60 } : Room) [.ref (a 0), .ref (b 0)] (hw q a h ++ (hw q b g)) (fun (u : HC) => ∀ S N, Gd S N → HR S N g → HR S N u) (fun u => (hw q a u ++ (hw q b g))) 0 0 := by
  refine MV.of RX0 [(0, .ref (a 0)), (1, .ref (b 0))] (by decide) rfl rfl (Nat.le_of_ble_eq_true rfl) rfl ?_
  intro p e s m args below meth c A C hr hnm
  have w_0 : ∀ w ∈ u_ws RX0 TX0 11, w ∈ wsX0_become := by decide +kernel
  have w_1 : Cond.fieldLink RX0 9 (TX0 0).1 (TX0 0).2.1 (TX0 0).2.2.1 ∈ wsX0_become := by decide +kernel
  have w_2 : Cond.methodLink RX0 43 arraycopyName ∈ wsX0_become := by decide +kernel
  have w_3 : Cond.native arraycopyName ∈ wsX0_become := by decide +kernel
  have w_4 : Cond.static arraycopyName ∈ wsX0_become := by decide +kernel
  have w_5 : Cond.initialized "java/lang/System" ∈ wsX0_become := by decide +kernel
  have w_6 : Cond.fieldLink RX0 15 (TX0 1).1 (TX0 1).2.1 (TX0 1).2.2.1 ∈ wsX0_become := by decide +kernel
  have w_7 : Cond.fieldLink RX0 18 (TX0 2).1 (TX0 2).2.1 (TX0 2).2.2.1 ∈ wsX0_become := by decide +kernel
  have w_8 : Cond.fieldLink RX0 21 (TX0 3).1 (TX0 3).2.1 (TX0 3).2.2.1 ∈ wsX0_become := by decide +kernel
  have w_9 : Cond.fieldLink RX0 24 (TX0 4).1 (TX0 4).2.1 (TX0 4).2.2.1 ∈ wsX0_become := by decide +kernel
  have w_10 : Cond.fieldLink RX0 49 (TX0 5).1 (TX0 5).2.1 (TX0 5).2.2.1 ∈ wsX0_become := by decide +kernel
  have w_11 : Cond.fieldLink RX0 52 (TX0 6).1 (TX0 6).2.1 (TX0 6).2.2.1 ∈ wsX0_become := by decide +kernel
  have w_12 : Cond.fieldLink RX0 55 (TX0 7).1 (TX0 7).2.1 (TX0 7).2.2.1 ∈ wsX0_become := by decide +kernel
  have w_13 : Cond.fieldLink RX0 33 (TX0 8).1 (TX0 8).2.1 (TX0 8).2.2.1 ∈ wsX0_become := by decide +kernel
  refine g_aloadn C dX0_become_0 1 rfl rfl ?_
  refine g_get C fx0 w_0 8 0 (v := .ref (b 1)) rfl (by decide) w_1 rfl dX0_become_1 ?_
  refine g_iconst C 0 dX0_become_4 (by decide) ?_
  refine g_aloadn C dX0_become_5 0 rfl rfl ?_
  refine g_get C fx0 w_0 0 0 (v := .ref (a 1)) rfl (by decide) w_1 rfl dX0_become_6 ?_
  refine g_iconst C 0 dX0_become_9 (by decide) ?_
  refine g_iconst C 4 dX0_become_10 (by decide) ?_
  refine g_copyi C 9 1 0 0 4 w_2 w_3 w_4 w_5 (f := (hL g)) (g := (hL h)) rfl rfl rfl rfl rfl (by decide) (by decide) (by decide) (by decide) (Nat.le_of_ble_eq_true rfl) (Nat.le_of_ble_eq_true rfl) dX0_become_11 (hw q a ((va_cpy (hL g) (hL h) 0 0 4), (hK h), (hP h), (hE h), (hR h), (hN h), (hC h), (hM h), (hZ h), (hJ h), (hH h)) ++ (hw q b g)) rfl ?_
  refine g_aloadn C dX0_become_14 1 rfl rfl ?_
  refine g_get C fx0 w_0 8 1 (v := .ref (b 2)) rfl (by decide) w_6 rfl dX0_become_15 ?_
  refine g_iconst C 0 dX0_become_18 (by decide) ?_
  refine g_aloadn C dX0_become_19 0 rfl rfl ?_
  refine g_get C fx0 w_0 0 1 (v := .ref (a 2)) rfl (by decide) w_6 rfl dX0_become_20 ?_
  refine g_iconst C 0 dX0_become_23 (by decide) ?_
  refine g_bipush C 8 dX0_become_24 (by decide) ?_
  refine g_copyi C 10 2 0 0 8 w_2 w_3 w_4 w_5 (f := (hK g)) (g := (hK h)) rfl rfl rfl rfl rfl (by decide) (by decide) (by decide) (by decide) (Nat.le_of_ble_eq_true rfl) (Nat.le_of_ble_eq_true rfl) dX0_become_26 (hw q a ((va_cpy (hL g) (hL h) 0 0 4), (va_cpy (hK g) (hK h) 0 0 8), (hP h), (hE h), (hR h), (hN h), (hC h), (hM h), (hZ h), (hJ h), (hH h)) ++ (hw q b g)) rfl ?_
  refine g_aloadn C dX0_become_29 1 rfl rfl ?_
  refine g_get C fx0 w_0 8 2 (v := .ref (b 3)) rfl (by decide) w_7 rfl dX0_become_30 ?_
  refine g_iconst C 0 dX0_become_33 (by decide) ?_
  refine g_aloadn C dX0_become_34 0 rfl rfl ?_
  refine g_get C fx0 w_0 0 2 (v := .ref (a 3)) rfl (by decide) w_7 rfl dX0_become_35 ?_
  refine g_iconst C 0 dX0_become_38 (by decide) ?_
  refine g_bipush C 8 dX0_become_39 (by decide) ?_
  refine g_copyi C 11 3 0 0 8 w_2 w_3 w_4 w_5 (f := (hP g)) (g := (hP h)) rfl rfl rfl rfl rfl (by decide) (by decide) (by decide) (by decide) (Nat.le_of_ble_eq_true rfl) (Nat.le_of_ble_eq_true rfl) dX0_become_41 (hw q a ((va_cpy (hL g) (hL h) 0 0 4), (va_cpy (hK g) (hK h) 0 0 8), (va_cpy (hP g) (hP h) 0 0 8), (hE h), (hR h), (hN h), (hC h), (hM h), (hZ h), (hJ h), (hH h)) ++ (hw q b g)) rfl ?_
  refine g_aloadn C dX0_become_44 1 rfl rfl ?_
  refine g_get C fx0 w_0 8 3 (v := .ref (b 4)) rfl (by decide) w_8 rfl dX0_become_45 ?_
  refine g_iconst C 0 dX0_become_48 (by decide) ?_
  refine g_aloadn C dX0_become_49 0 rfl rfl ?_
  refine g_get C fx0 w_0 0 3 (v := .ref (a 4)) rfl (by decide) w_8 rfl dX0_become_50 ?_
  refine g_iconst C 0 dX0_become_53 (by decide) ?_
  refine g_bipush C 8 dX0_become_54 (by decide) ?_
  refine g_copyi C 12 4 0 0 8 w_2 w_3 w_4 w_5 (f := (hE g)) (g := (hE h)) rfl rfl rfl rfl rfl (by decide) (by decide) (by decide) (by decide) (Nat.le_of_ble_eq_true rfl) (Nat.le_of_ble_eq_true rfl) dX0_become_56 (hw q a ((va_cpy (hL g) (hL h) 0 0 4), (va_cpy (hK g) (hK h) 0 0 8), (va_cpy (hP g) (hP h) 0 0 8), (va_cpy (hE g) (hE h) 0 0 8), (hR h), (hN h), (hC h), (hM h), (hZ h), (hJ h), (hH h)) ++ (hw q b g)) rfl ?_
  refine g_aloadn C dX0_become_59 1 rfl rfl ?_
  refine g_get C fx0 w_0 8 4 (v := .ref (b 5)) rfl (by decide) w_9 rfl dX0_become_60 ?_
  refine g_iconst C 0 dX0_become_63 (by decide) ?_
  refine g_aloadn C dX0_become_64 0 rfl rfl ?_
  refine g_get C fx0 w_0 0 4 (v := .ref (a 5)) rfl (by decide) w_9 rfl dX0_become_65 ?_
  refine g_iconst C 0 dX0_become_68 (by decide) ?_
  refine g_bipush C 8 dX0_become_69 (by decide) ?_
  refine g_copyi C 13 5 0 0 8 w_2 w_3 w_4 w_5 (f := (hR g)) (g := (hR h)) rfl rfl rfl rfl rfl (by decide) (by decide) (by decide) (by decide) (Nat.le_of_ble_eq_true rfl) (Nat.le_of_ble_eq_true rfl) dX0_become_71 (hw q a ((va_cpy (hL g) (hL h) 0 0 4), (va_cpy (hK g) (hK h) 0 0 8), (va_cpy (hP g) (hP h) 0 0 8), (va_cpy (hE g) (hE h) 0 0 8), (va_cpy (hR g) (hR h) 0 0 8), (hN h), (hC h), (hM h), (hZ h), (hJ h), (hH h)) ++ (hw q b g)) rfl ?_
  refine g_aloadn C dX0_become_74 0 rfl rfl ?_
  refine g_aloadn C dX0_become_75 1 rfl rfl ?_
  refine g_get C fx0 w_0 8 5 (v := .int (hN g)) rfl (by decide) w_10 rfl dX0_become_76 ?_
  refine g_put C fx0 w_0 0 5 rfl (by decide) w_10 rfl rfl rfl (Nat.le_of_ble_eq_true rfl) dX0_become_79 (hw q a ((va_cpy (hL g) (hL h) 0 0 4), (va_cpy (hK g) (hK h) 0 0 8), (va_cpy (hP g) (hP h) 0 0 8), (va_cpy (hE g) (hE h) 0 0 8), (va_cpy (hR g) (hR h) 0 0 8), (hN g), (hC h), (hM h), (hZ h), (hJ h), (hH h)) ++ (hw q b g)) rfl ?_
  refine g_aloadn C dX0_become_82 0 rfl rfl ?_
  refine g_aloadn C dX0_become_83 1 rfl rfl ?_
  refine g_get C fx0 w_0 8 6 (v := .int (hC g)) rfl (by decide) w_11 rfl dX0_become_84 ?_
  refine g_put C fx0 w_0 0 6 rfl (by decide) w_11 rfl rfl rfl (Nat.le_of_ble_eq_true rfl) dX0_become_87 (hw q a ((va_cpy (hL g) (hL h) 0 0 4), (va_cpy (hK g) (hK h) 0 0 8), (va_cpy (hP g) (hP h) 0 0 8), (va_cpy (hE g) (hE h) 0 0 8), (va_cpy (hR g) (hR h) 0 0 8), (hN g), (hC g), (hM h), (hZ h), (hJ h), (hH h)) ++ (hw q b g)) rfl ?_
  refine g_aloadn C dX0_become_90 0 rfl rfl ?_
  refine g_aloadn C dX0_become_91 1 rfl rfl ?_
  refine g_get C fx0 w_0 8 7 (v := .int (hM g)) rfl (by decide) w_12 rfl dX0_become_92 ?_
  refine g_put C fx0 w_0 0 7 rfl (by decide) w_12 rfl rfl rfl (Nat.le_of_ble_eq_true rfl) dX0_become_95 (hw q a ((va_cpy (hL g) (hL h) 0 0 4), (va_cpy (hK g) (hK h) 0 0 8), (va_cpy (hP g) (hP h) 0 0 8), (va_cpy (hE g) (hE h) 0 0 8), (va_cpy (hR g) (hR h) 0 0 8), (hN g), (hC g), (hM g), (hZ h), (hJ h), (hH h)) ++ (hw q b g)) rfl ?_
  refine g_aloadn C dX0_become_98 0 rfl rfl ?_
  refine g_aloadn C dX0_become_99 1 rfl rfl ?_
  refine g_get C fx0 w_0 8 8 (v := .int (hZ g)) rfl (by decide) w_13 rfl dX0_become_100 ?_
  refine g_put C fx0 w_0 0 8 rfl (by decide) w_13 rfl rfl rfl (Nat.le_of_ble_eq_true rfl) dX0_become_103 (hw q a ((va_cpy (hL g) (hL h) 0 0 4), (va_cpy (hK g) (hK h) 0 0 8), (va_cpy (hP g) (hP h) 0 0 8), (va_cpy (hE g) (hE h) 0 0 8), (va_cpy (hR g) (hR h) 0 0 8), (hN g), (hC g), (hM g), (hZ g), (hJ h), (hH h)) ++ (hw q b g)) rfl ?_
  exact g_vret C ((va_cpy (hL g) (hL h) 0 0 4), (va_cpy (hK g) (hK h) 0 0 8), (va_cpy (hP g) (hP h) 0 0 8), (va_cpy (hE g) (hE h) 0 0 8), (va_cpy (hR g) (hR h) 0 0 8), (hN g), (hC g), (hM g), (hZ g), (hJ h), (hH h)) hr dX0_become_106 (Nat.le_of_ble_eq_true rfl) (Nat.le_of_ble_eq_true rfl) rfl (fun S N gG gR => hr_become gG.le gR rfl rfl rfl rfl rfl rfl rfl rfl rfl)

set_option maxRecDepth 100000 in
set_option maxHeartbeats 4000000 in
theorem k_X0_clear (l : Launch) (D : va_G) (q : Nat → ClassId) (tt : Nat → Nat) (a : Nat → Nat) (h : HC)  : MV l D q tt yX0_clear wsX0_clear ({ frames := 1, cells := 0, slots := 0, locals := 60 } : Room) [.ref (a 0)] (hw q a h) (fun (u : Unit) => True) (fun (_ : Unit) => (hw q a ((va_cpy (fun z => tLF.getD z 0) (hL h) 0 0 4), (hK h), (hP h), (hE h), (hR h), 0, 0, 0, (hZ h), (hJ h), (hH h)))) 0 0 := by
  refine MV.of RX0 [(0, .ref (a 0))] (by decide) rfl rfl (Nat.le_of_ble_eq_true rfl) rfl ?_
  intro p e s m args below meth c A C hr hnm
  have w_0 : Cond.fieldLinkNest RX0 40 RX4 "LAW_AT_FIRST" "[I" "HiredClaque" ∈ nwL := by decide +kernel
  have w_1 : ∀ w ∈ u_ws RX0 TX0 11, w ∈ wsX0_clear := by decide +kernel
  have w_2 : Cond.fieldLink RX0 9 (TX0 0).1 (TX0 0).2.1 (TX0 0).2.2.1 ∈ wsX0_clear := by decide +kernel
  have w_3 : Cond.methodLink RX0 43 arraycopyName ∈ wsX0_clear := by decide +kernel
  have w_4 : Cond.native arraycopyName ∈ wsX0_clear := by decide +kernel
  have w_5 : Cond.static arraycopyName ∈ wsX0_clear := by decide +kernel
  have w_6 : Cond.initialized "java/lang/System" ∈ wsX0_clear := by decide +kernel
  have w_7 : Cond.fieldLink RX0 49 (TX0 5).1 (TX0 5).2.1 (TX0 5).2.2.1 ∈ wsX0_clear := by decide +kernel
  have w_8 : Cond.fieldLink RX0 52 (TX0 6).1 (TX0 6).2.1 (TX0 6).2.2.1 ∈ wsX0_clear := by decide +kernel
  have w_9 : Cond.fieldLink RX0 55 (TX0 7).1 (TX0 7).2.1 (TX0 7).2.2.1 ∈ wsX0_clear := by decide +kernel
  refine g_getsN C (host := "HiredClaque") C.2.2.2.2.2.2.1.2.2.1 w_0 dX0_clear_0 ?_
  refine g_iconst C 0 dX0_clear_3 (by decide) ?_
  refine g_aloadn C dX0_clear_4 0 rfl rfl ?_
  refine g_get C fx0 w_1 0 0 (v := .ref (a 1)) rfl (by decide) w_2 rfl dX0_clear_5 ?_
  refine g_iconst C 0 dX0_clear_8 (by decide) ?_
  refine g_iconst C 4 dX0_clear_9 (by decide) ?_
  refine g_copyt C 1 0 0 4 w_3 w_4 w_5 w_6 C.2.2.2.2.2.2.1.2.2.1 (g := (hL h)) rfl rfl rfl rfl (by decide) (by decide) (by decide) (by decide) (Nat.le_of_ble_eq_true rfl) (Nat.le_of_ble_eq_true rfl) dX0_clear_10 (hw q a ((va_cpy (fun z => tLF.getD z 0) (hL h) 0 0 4), (hK h), (hP h), (hE h), (hR h), (hN h), (hC h), (hM h), (hZ h), (hJ h), (hH h))) rfl ?_
  refine g_aloadn C dX0_clear_13 0 rfl rfl ?_
  refine g_iconst C 0 dX0_clear_14 (by decide) ?_
  refine g_put C fx0 w_1 0 5 rfl (by decide) w_7 rfl rfl rfl (Nat.le_of_ble_eq_true rfl) dX0_clear_15 (hw q a ((va_cpy (fun z => tLF.getD z 0) (hL h) 0 0 4), (hK h), (hP h), (hE h), (hR h), 0, (hC h), (hM h), (hZ h), (hJ h), (hH h))) rfl ?_
  refine g_aloadn C dX0_clear_18 0 rfl rfl ?_
  refine g_iconst C 0 dX0_clear_19 (by decide) ?_
  refine g_put C fx0 w_1 0 6 rfl (by decide) w_8 rfl rfl rfl (Nat.le_of_ble_eq_true rfl) dX0_clear_20 (hw q a ((va_cpy (fun z => tLF.getD z 0) (hL h) 0 0 4), (hK h), (hP h), (hE h), (hR h), 0, 0, (hM h), (hZ h), (hJ h), (hH h))) rfl ?_
  refine g_aloadn C dX0_clear_23 0 rfl rfl ?_
  refine g_iconst C 0 dX0_clear_24 (by decide) ?_
  refine g_put C fx0 w_1 0 7 rfl (by decide) w_9 rfl rfl rfl (Nat.le_of_ble_eq_true rfl) dX0_clear_25 (hw q a ((va_cpy (fun z => tLF.getD z 0) (hL h) 0 0 4), (hK h), (hP h), (hE h), (hR h), 0, 0, 0, (hZ h), (hJ h), (hH h))) rfl ?_
  exact g_vret C () hr dX0_clear_28 (Nat.le_of_ble_eq_true rfl) (Nat.le_of_ble_eq_true rfl) rfl (trivial)

set_option maxRecDepth 100000 in
set_option maxHeartbeats 4000000 in
theorem k_X0_admit (l : Launch) (D : va_G) (q : Nat → ClassId) (tt : Nat → Nat) (a : Nat → Nat) (h : HC) (n : Nat) (xk : Int32) (xp : Int32) (xe : Int32) (xr : Int32) (xz : Int32) (hn : n < 8) (en : hN h = nI n) : MV l D q tt yX0_admit wsX0_admit ({ frames := 1, cells := 0, slots := 0, locals := 22 } : Room) [.ref (a 0), .int xk, .int xp, .int xe, .int xr, .int xz] (hw q a h) (fun (u : Unit) => True) (fun (_ : Unit) => (hw q a ((hL h), (upd (hK h) n xk), (upd (hP h) n xp), (upd (hE h) n xe), (upd (hR h) n xr), (nI (n + 1)), (ltC (hC h) (nI n) xz), (hM h), (hZ h), (hJ h), (hH h)))) 0 0 := by
  refine MV.of RX0 [(0, .ref (a 0)), (1, .int xk), (2, .int xp), (3, .int xe), (4, .int xr), (5, .int xz)] (by decide) rfl rfl (Nat.le_of_ble_eq_true rfl) rfl ?_
  intro p e s m args below meth c A C hr hnm
  have w_0 : ∀ w ∈ u_ws RX0 TX0 11, w ∈ wsX0_admit := by decide +kernel
  have w_1 : Cond.fieldLink RX0 49 (TX0 5).1 (TX0 5).2.1 (TX0 5).2.2.1 ∈ wsX0_admit := by decide +kernel
  have w_2 : Cond.fieldLink RX0 15 (TX0 1).1 (TX0 1).2.1 (TX0 1).2.2.1 ∈ wsX0_admit := by decide +kernel
  have w_3 : Cond.fieldLink RX0 18 (TX0 2).1 (TX0 2).2.1 (TX0 2).2.2.1 ∈ wsX0_admit := by decide +kernel
  have w_4 : Cond.fieldLink RX0 21 (TX0 3).1 (TX0 3).2.1 (TX0 3).2.2.1 ∈ wsX0_admit := by decide +kernel
  have w_5 : Cond.fieldLink RX0 24 (TX0 4).1 (TX0 4).2.1 (TX0 4).2.2.1 ∈ wsX0_admit := by decide +kernel
  refine g_aloadn C dX0_admit_0 0 rfl rfl ?_
  refine g_get C fx0 w_0 0 5 (v := .int (hN h)) rfl (by decide) w_1 rfl dX0_admit_1 ?_
  refine g_topci (nI n) (en) ?_
  refine g_bipush C 8 dX0_admit_4 (by decide) ?_
  refine g_icmpN_lt C 10 (n) (8) dX0_admit_6 rfl (by omega) (by omega) (fun c_6 => ?_) (fun c_6 => ?_)
  · refine g_aloadn C dX0_admit_10 0 rfl rfl ?_
    refine g_get C fx0 w_0 0 1 (v := .ref (a 2)) rfl (by decide) w_2 rfl dX0_admit_11 ?_
    refine g_aloadn C dX0_admit_14 0 rfl rfl ?_
    refine g_get C fx0 w_0 0 5 (v := .int (hN h)) rfl (by decide) w_1 rfl dX0_admit_15 ?_
    refine g_topci (nI n) (en) ?_
    refine g_iloadn C dX0_admit_18 1 rfl rfl ?_
    refine g_iast C 2 (n) (f := (hK h)) rfl rfl (by omega) (by decide) dX0_admit_19 (hw q a ((hL h), (upd (hK h) n xk), (hP h), (hE h), (hR h), (hN h), (hC h), (hM h), (hZ h), (hJ h), (hH h))) rfl ?_
    refine g_aloadn C dX0_admit_20 0 rfl rfl ?_
    refine g_get C fx0 w_0 0 2 (v := .ref (a 3)) rfl (by decide) w_3 rfl dX0_admit_21 ?_
    refine g_aloadn C dX0_admit_24 0 rfl rfl ?_
    refine g_get C fx0 w_0 0 5 (v := .int (hN h)) rfl (by decide) w_1 rfl dX0_admit_25 ?_
    refine g_topci (nI n) (en) ?_
    refine g_iloadn C dX0_admit_28 2 rfl rfl ?_
    refine g_iast C 3 (n) (f := (hP h)) rfl rfl (by omega) (by decide) dX0_admit_29 (hw q a ((hL h), (upd (hK h) n xk), (upd (hP h) n xp), (hE h), (hR h), (hN h), (hC h), (hM h), (hZ h), (hJ h), (hH h))) rfl ?_
    refine g_aloadn C dX0_admit_30 0 rfl rfl ?_
    refine g_get C fx0 w_0 0 3 (v := .ref (a 4)) rfl (by decide) w_4 rfl dX0_admit_31 ?_
    refine g_aloadn C dX0_admit_34 0 rfl rfl ?_
    refine g_get C fx0 w_0 0 5 (v := .int (hN h)) rfl (by decide) w_1 rfl dX0_admit_35 ?_
    refine g_topci (nI n) (en) ?_
    refine g_iloadn C dX0_admit_38 3 rfl rfl ?_
    refine g_iast C 4 (n) (f := (hE h)) rfl rfl (by omega) (by decide) dX0_admit_39 (hw q a ((hL h), (upd (hK h) n xk), (upd (hP h) n xp), (upd (hE h) n xe), (hR h), (hN h), (hC h), (hM h), (hZ h), (hJ h), (hH h))) rfl ?_
    refine g_aloadn C dX0_admit_40 0 rfl rfl ?_
    refine g_get C fx0 w_0 0 4 (v := .ref (a 5)) rfl (by decide) w_5 rfl dX0_admit_41 ?_
    refine g_aloadn C dX0_admit_44 0 rfl rfl ?_
    refine g_get C fx0 w_0 0 5 (v := .int (hN h)) rfl (by decide) w_1 rfl dX0_admit_45 ?_
    refine g_topci (nI n) (en) ?_
    refine g_iload C dX0_admit_48 4 rfl ?_
    refine g_iast C 5 (n) (f := (hR h)) rfl rfl (by omega) (by decide) dX0_admit_50 (hw q a ((hL h), (upd (hK h) n xk), (upd (hP h) n xp), (upd (hE h) n xe), (upd (hR h) n xr), (hN h), (hC h), (hM h), (hZ h), (hJ h), (hH h))) rfl ?_
    refine g_aloadn C dX0_admit_51 0 rfl rfl ?_
    refine g_aloadn C dX0_admit_52 0 rfl rfl ?_
    refine g_get C fx0 w_0 0 5 (v := .int (hN h)) rfl (by decide) w_1 rfl dX0_admit_53 ?_
    refine g_topci (nI n) (en) ?_
    refine g_iload C dX0_admit_56 5 rfl ?_
    refine g_callAv C (rd_V C (k_X0_letClap l D q tt a ((hL h), (upd (hK h) n xk), (upd (hP h) n xp), (upd (hE h) n xe), (upd (hR h) n xr), (hN h), (hC h), (hM h), (hZ h), (hJ h), (hH h)) (nI n) xz ) gX0_admit_X0_letClap rfl rfl rfl 2 ok_X0_letClap rfl 0 rfl rfl (rest := []) rfl rfl (Nat.le_of_ble_eq_true rfl) dX0_admit_58 ⟨(Nat.le_of_ble_eq_true rfl), (Nat.le_of_ble_eq_true rfl)⟩ ⟨(Nat.le_of_ble_eq_true rfl), (Nat.le_of_ble_eq_true rfl)⟩) (fun _ h_58 => ?_)
    refine g_wsc (hw q a ((hL h), (upd (hK h) n xk), (upd (hP h) n xp), (upd (hE h) n xe), (upd (hR h) n xr), (hN h), (ltC (hC h) (nI n) xz), (hM h), (hZ h), (hJ h), (hH h))) rfl ?_
    refine g_aloadn C dX0_admit_61 0 rfl rfl ?_
    refine g_dup C dX0_admit_62 rfl ?_
    refine g_get C fx0 w_0 0 5 (v := .int (hN h)) rfl (by decide) w_1 rfl dX0_admit_63 ?_
    refine g_topci (nI n) (en) ?_
    refine g_iconst C 1 dX0_admit_66 (by decide) ?_
    refine g_iadd C dX0_admit_67 ?_
    refine g_topci (nI (n + 1)) (nI_add n 1) ?_
    refine g_put C fx0 w_0 0 5 rfl (by decide) w_1 rfl rfl rfl (Nat.le_of_ble_eq_true rfl) dX0_admit_68 (hw q a ((hL h), (upd (hK h) n xk), (upd (hP h) n xp), (upd (hE h) n xe), (upd (hR h) n xr), (nI (n + 1)), (ltC (hC h) (nI n) xz), (hM h), (hZ h), (hJ h), (hH h))) rfl ?_
    exact g_vret C () hr dX0_admit_71 (Nat.le_of_ble_eq_true rfl) (Nat.le_of_ble_eq_true rfl) rfl (trivial)
  · exfalso
    omega

