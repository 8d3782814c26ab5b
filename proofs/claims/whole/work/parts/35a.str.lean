set_option maxRecDepth 100000 in
set_option maxHeartbeats 4000000 in
theorem k_J0_coder_7d493 (l : Launch) (D : va_G) (q : Nat → ClassId) (tt : Nat → Nat) (i : Nat) (hi : i < 14) : MI l D q tt yJ0_coder_7d493 wsJ0_coder_7d493 ({ frames := 0, cells := 0, slots := 0, locals := 0 } : Room) [.ref (tt (10 + i))] [] (fun (r : Int32) (u : Unit) => r = 0) (fun (_ : Unit) => []) 0 0 := by
  refine MI.of RJ0 [(0, .ref (tt (10 + i)))] (by decide) rfl rfl (Nat.le_of_ble_eq_true rfl) rfl ?_
  intro p e s m args below meth c A C hr hnm
  have w_0 : Cond.fieldLink RJ0 38 "java/lang/String" "COMPACT_STRINGS" "Z" ∈ wsJ0_coder_7d493 := by decide +kernel
  have w_1 : Cond.fieldLink RJ0 15 "java/lang/String" "coder" "B" ∈ wsJ0_coder_7d493 := by decide +kernel
  refine g_gcs C w_0 dJ0_coder_7d493_0 ?_
  refine g_if_eqF C 13 dJ0_coder_7d493_3 rfl (by decide) ?_
  refine g_aloadn C dJ0_coder_7d493_6 0 rfl rfl ?_
  refine g_scoder C i (by first | assumption | omega) w_1 dJ0_coder_7d493_7 ?_
  refine g_goto C 14 dJ0_coder_7d493_10 rfl ?_
  exact g_zret C () hr rfl dJ0_coder_7d493_14 (Nat.le_of_ble_eq_true rfl) (Nat.le_of_ble_eq_true rfl) rfl (rfl)

set_option maxRecDepth 100000 in
set_option maxHeartbeats 4000000 in
theorem k_J0_isLatin1_aae02 (l : Launch) (D : va_G) (q : Nat → ClassId) (tt : Nat → Nat) (i : Nat) (hi : i < 14) : MI l D q tt yJ0_isLatin1_aae02 wsJ0_isLatin1_aae02 ({ frames := 0, cells := 0, slots := 0, locals := 0 } : Room) [.ref (tt (10 + i))] [] (fun (r : Int32) (u : Unit) => r = 1) (fun (_ : Unit) => []) 0 0 := by
  refine MI.of RJ0 [(0, .ref (tt (10 + i)))] (by decide) rfl rfl (Nat.le_of_ble_eq_true rfl) rfl ?_
  intro p e s m args below meth c A C hr hnm
  have w_0 : Cond.fieldLink RJ0 38 "java/lang/String" "COMPACT_STRINGS" "Z" ∈ wsJ0_isLatin1_aae02 := by decide +kernel
  have w_1 : Cond.fieldLink RJ0 15 "java/lang/String" "coder" "B" ∈ wsJ0_isLatin1_aae02 := by decide +kernel
  refine g_gcs C w_0 dJ0_isLatin1_aae02_0 ?_
  refine g_if_eqF C 17 dJ0_isLatin1_aae02_3 rfl (by decide) ?_
  refine g_aloadn C dJ0_isLatin1_aae02_6 0 rfl rfl ?_
  refine g_scoder C i (by first | assumption | omega) w_1 dJ0_isLatin1_aae02_7 ?_
  refine g_if_neF C 17 dJ0_isLatin1_aae02_10 rfl (by decide) ?_
  refine g_iconst C 1 dJ0_isLatin1_aae02_13 (by decide) ?_
  refine g_goto C 18 dJ0_isLatin1_aae02_14 rfl ?_
  exact g_zret C () hr rfl dJ0_isLatin1_aae02_18 (Nat.le_of_ble_eq_true rfl) (Nat.le_of_ble_eq_true rfl) rfl (rfl)

set_option maxRecDepth 100000 in
set_option maxHeartbeats 4000000 in
theorem k_J0_length_8abf5 (l : Launch) (D : va_G) (q : Nat → ClassId) (tt : Nat → Nat) (i : Nat) (hi : i < 14) : MI l D q tt yJ0_length_8abf5 wsJ0_length_8abf5 ({ frames := 1, cells := 0, slots := 0, locals := 20 } : Room) [.ref (tt (10 + i))] [] (fun (r : Int32) (u : Unit) => r = (nI (txL.getD i 0))) (fun (_ : Unit) => []) 0 0 := by
  refine MI.of RJ0 [(0, .ref (tt (10 + i)))] (by decide) rfl rfl (Nat.le_of_ble_eq_true rfl) rfl ?_
  intro p e s m args below meth c A C hr hnm
  have w_0 : Cond.fieldLink RJ0 9 "java/lang/String" "value" "[B" ∈ wsJ0_length_8abf5 := by decide +kernel
  refine g_aloadn C dJ0_length_8abf5_0 0 rfl rfl ?_
  refine g_svalue C i (by first | assumption | omega) w_0 dJ0_length_8abf5_1 ?_
  refine g_slen C i (by first | assumption | omega) dJ0_length_8abf5_4 ?_
  refine g_aloadn C dJ0_length_8abf5_5 0 rfl rfl ?_
  refine g_call0i C (rd_VS C i (by first | assumption | omega) (k_J0_coder_7d493 l D q tt i (by first | assumption | omega)) gJ0_length_8abf5_J0_coder_7d493 rfl rfl rfl 0 ok_J0_coder_7d493 rfl (rest := [.int (nI (txL.getD i 0))]) rfl rfl (Nat.le_of_ble_eq_true rfl) dJ0_length_8abf5_6 ⟨(Nat.le_of_ble_eq_true rfl), (Nat.le_of_ble_eq_true rfl)⟩ ⟨(Nat.le_of_ble_eq_true rfl), (Nat.le_of_ble_eq_true rfl)⟩) (fun _ => rfl) (fun r_6 _ h_6 => ?_)
  obtain rfl := h_6
  refine g_ishr C dJ0_length_8abf5_9 ?_
  exact g_iret C () hr dJ0_length_8abf5_10 (Nat.le_of_ble_eq_true rfl) (Nat.le_of_ble_eq_true rfl) rfl (sx_len i hi)

set_option maxRecDepth 100000 in
set_option maxHeartbeats 4000000 in
theorem k_J3ci_n (l : Launch) (D : va_G) (q : Nat → ClassId) (tt : Nat → Nat) (k : Nat) (n : Nat) (hk : k < n) (hn : n < 2 ^ 31) : MI l D q tt yJ3_checkIndex_8e157 wsJ3_checkIndex_8e157 ({ frames := 0, cells := 0, slots := 0, locals := 0 } : Room) [.int (nI k), .int (nI n), .null] [] (fun (r : Int32) (u : Unit) => r = (nI k)) (fun (_ : Unit) => []) 0 0 := by
  refine MI.of RJ3 [(0, .int (nI k)), (1, .int (nI n)), (2, .null)] (by decide) rfl rfl (Nat.le_of_ble_eq_true rfl) rfl ?_
  intro p e s m args below meth c A C hr hnm
  refine g_iloadn C dJ3_checkIndex_8e157_0 0 rfl rfl ?_
  refine g_if_lt C 9 dJ3_checkIndex_8e157_1 rfl (fun c_1 => ?_) (fun c_1 => ?_)
  · exfalso
    first | exact absurd c_1 (nI_pos (by omega)) | omega
  · refine g_iloadn C dJ3_checkIndex_8e157_4 0 rfl rfl ?_
    refine g_iloadn C dJ3_checkIndex_8e157_5 1 rfl rfl ?_
    refine g_icmpN_lt C 16 (k) (n) dJ3_checkIndex_8e157_6 rfl (by omega) (by omega) (fun c_6 => ?_) (fun c_6 => ?_)
    · refine g_iloadn C dJ3_checkIndex_8e157_16 0 rfl rfl ?_
      exact g_iret C () hr dJ3_checkIndex_8e157_17 (Nat.le_of_ble_eq_true rfl) (Nat.le_of_ble_eq_true rfl) rfl (rfl)
    · exfalso
      first | exact absurd c_1 (nI_pos (by omega)) | omega

set_option maxRecDepth 100000 in
set_option maxHeartbeats 4000000 in
theorem k_J3ci_r (l : Launch) (D : va_G) (q : Nat → ClassId) (tt : Nat → Nat) (k : Nat) (n : Nat) (y : Nat) (hk : k < n) (hn : n < 2 ^ 31) : MI l D q tt yJ3_checkIndex_8e157 wsJ3_checkIndex_8e157 ({ frames := 0, cells := 0, slots := 0, locals := 0 } : Room) [.int (nI k), .int (nI n), .ref y] [] (fun (r : Int32) (u : Unit) => r = (nI k)) (fun (_ : Unit) => []) 0 0 := by
  refine MI.of RJ3 [(0, .int (nI k)), (1, .int (nI n)), (2, .ref y)] (by decide) rfl rfl (Nat.le_of_ble_eq_true rfl) rfl ?_
  intro p e s m args below meth c A C hr hnm
  refine g_iloadn C dJ3_checkIndex_8e157_0 0 rfl rfl ?_
  refine g_if_lt C 9 dJ3_checkIndex_8e157_1 rfl (fun c_1 => ?_) (fun c_1 => ?_)
  · exfalso
    first | exact absurd c_1 (nI_pos (by omega)) | omega
  · refine g_iloadn C dJ3_checkIndex_8e157_4 0 rfl rfl ?_
    refine g_iloadn C dJ3_checkIndex_8e157_5 1 rfl rfl ?_
    refine g_icmpN_lt C 16 (k) (n) dJ3_checkIndex_8e157_6 rfl (by omega) (by omega) (fun c_6 => ?_) (fun c_6 => ?_)
    · refine g_iloadn C dJ3_checkIndex_8e157_16 0 rfl rfl ?_
      exact g_iret C () hr dJ3_checkIndex_8e157_17 (Nat.le_of_ble_eq_true rfl) (Nat.le_of_ble_eq_true rfl) rfl (rfl)
    · exfalso
      first | exact absurd c_1 (nI_pos (by omega)) | omega

set_option maxRecDepth 100000 in
set_option maxHeartbeats 4000000 in
theorem k_J0_checkIndex_df160 (l : Launch) (D : va_G) (q : Nat → ClassId) (tt : Nat → Nat) (k : Nat) (n : Nat) (hk : k < n) (hn : n < 2 ^ 31) : MV l D q tt yJ0_checkIndex_df160 wsJ0_checkIndex_df160 ({ frames := 1, cells := 0, slots := 0, locals := 22 } : Room) [.int (nI k), .int (nI n)] [] (fun (u : Unit) => True) (fun (_ : Unit) => []) 0 0 := by
  refine MV.of RJ0 [(0, .int (nI k)), (1, .int (nI n))] (by decide) rfl rfl (Nat.le_of_ble_eq_true rfl) rfl ?_
  intro p e s m args below meth c A C hr hnm
  have w_0 : Cond.fieldLink RJ0 1053 "jdk/internal/util/Preconditions" "SIOOBE_FORMATTER" "Ljava/util/function/BiFunction;" ∈ wsJ0_checkIndex_df160 := by decide +kernel
  refine g_iloadn C dJ0_checkIndex_df160_0 0 rfl rfl ?_
  refine g_iloadn C dJ0_checkIndex_df160_1 1 rfl rfl ?_
  refine g_gfm C w_0 dJ0_checkIndex_df160_2 ?_ (fun y_2 => ?_)
  · refine g_call0i C (rd_S C (k_J3ci_n l D q tt k n (by first | assumption | omega) (by first | assumption | omega)) gJ0_checkIndex_df160_J3_checkIndex_8e157 rfl rfl rfl 3 ok_J3_checkIndex_8e157 (rest := []) rfl rfl (Nat.le_of_ble_eq_true rfl) dJ0_checkIndex_df160_5 ⟨(Nat.le_of_ble_eq_true rfl), (Nat.le_of_ble_eq_true rfl)⟩ ⟨(Nat.le_of_ble_eq_true rfl), (Nat.le_of_ble_eq_true rfl)⟩) (fun _ => rfl) (fun r_5 _ h_5 => ?_)
    obtain rfl := h_5
    refine g_pop C dJ0_checkIndex_df160_8 rfl ?_
    exact g_vret C () hr dJ0_checkIndex_df160_9 (Nat.le_of_ble_eq_true rfl) (Nat.le_of_ble_eq_true rfl) rfl (trivial)
  · refine g_call0i C (rd_S C (k_J3ci_r l D q tt k n y_2 (by first | assumption | omega) (by first | assumption | omega)) gJ0_checkIndex_df160_J3_checkIndex_8e157 rfl rfl rfl 3 ok_J3_checkIndex_8e157 (rest := []) rfl rfl (Nat.le_of_ble_eq_true rfl) dJ0_checkIndex_df160_5 ⟨(Nat.le_of_ble_eq_true rfl), (Nat.le_of_ble_eq_true rfl)⟩ ⟨(Nat.le_of_ble_eq_true rfl), (Nat.le_of_ble_eq_true rfl)⟩) (fun _ => rfl) (fun r_5 _ h_5 => ?_)
    obtain rfl := h_5
    refine g_pop C dJ0_checkIndex_df160_8 rfl ?_
    exact g_vret C () hr dJ0_checkIndex_df160_9 (Nat.le_of_ble_eq_true rfl) (Nat.le_of_ble_eq_true rfl) rfl (trivial)

set_option maxRecDepth 100000 in
set_option maxHeartbeats 4000000 in
theorem k_J1_charAt_3b067 (l : Launch) (D : va_G) (q : Nat → ClassId) (tt : Nat → Nat) (i : Nat) (k : Nat) (hi : i < 14) (hk : k < txL.getD i 0) : MI l D q tt yJ1_charAt_3b067 wsJ1_charAt_3b067 ({ frames := 2, cells := 0, slots := 0, locals := 43 } : Room) [.ref (tt (30 + i)), .int (nI k)] [] (fun (r : Int32) (u : Unit) => r = ((txB.getD i []).getD k 0)) (fun (_ : Unit) => []) 0 0 := by
  refine MI.of RJ1 [(0, .ref (tt (30 + i))), (1, .int (nI k))] (by decide) rfl rfl (Nat.le_of_ble_eq_true rfl) rfl ?_
  intro p e s m args below meth c A C hr hnm
  refine g_iloadn C dJ1_charAt_3b067_0 1 rfl rfl ?_
  refine g_aloadn C dJ1_charAt_3b067_1 0 rfl rfl ?_
  refine g_slen C i (by first | assumption | omega) dJ1_charAt_3b067_2 ?_
  refine g_call0v C (rd_S C (k_J0_checkIndex_df160 l D q tt k (txL.getD i 0) (by first | assumption | omega) (tx_lt i hi)) gJ1_charAt_3b067_J0_checkIndex_df160 rfl rfl rfl 2 ok_J0_checkIndex_df160 (rest := []) rfl rfl (Nat.le_of_ble_eq_true rfl) dJ1_charAt_3b067_3 ⟨(Nat.le_of_ble_eq_true rfl), (Nat.le_of_ble_eq_true rfl)⟩ ⟨(Nat.le_of_ble_eq_true rfl), (Nat.le_of_ble_eq_true rfl)⟩) (fun _ => rfl) (fun _ h_3 => ?_)
  refine g_aloadn C dJ1_charAt_3b067_6 0 rfl rfl ?_
  refine g_iloadn C dJ1_charAt_3b067_7 1 rfl rfl ?_
  refine g_stb C i (k) (by first | assumption | omega) rfl (by first | assumption | omega) dJ1_charAt_3b067_8 ?_
  refine g_sipush C 255 dJ1_charAt_3b067_9 (by decide) ?_
  refine g_iand C dJ1_charAt_3b067_12 ?_
  refine g_i2c C ((txB.getD i []).getD k 0) (sx_ch i hi k hk) dJ1_charAt_3b067_13 ?_
  exact g_zret C () hr (sx_nar i hi k hk) dJ1_charAt_3b067_14 (Nat.le_of_ble_eq_true rfl) (Nat.le_of_ble_eq_true rfl) rfl (rfl)

set_option maxRecDepth 100000 in
set_option maxHeartbeats 4000000 in
theorem k_J0_charAt_5068e (l : Launch) (D : va_G) (q : Nat → ClassId) (tt : Nat → Nat) (i : Nat) (k : Nat) (hi : i < 14) (hk : k < txL.getD i 0) : MI l D q tt yJ0_charAt_5068e wsJ0_charAt_5068e ({ frames := 3, cells := 0, slots := 0, locals := 64 } : Room) [.ref (tt (10 + i)), .int (nI k)] [] (fun (r : Int32) (u : Unit) => r = ((txB.getD i []).getD k 0)) (fun (_ : Unit) => []) 0 0 := by
  refine MI.of RJ0 [(0, .ref (tt (10 + i))), (1, .int (nI k))] (by decide) rfl rfl (Nat.le_of_ble_eq_true rfl) rfl ?_
  intro p e s m args below meth c A C hr hnm
  have w_0 : Cond.fieldLink RJ0 9 "java/lang/String" "value" "[B" ∈ wsJ0_charAt_5068e := by decide +kernel
  refine g_aloadn C dJ0_charAt_5068e_0 0 rfl rfl ?_
  refine g_call0i C (rd_VS C i (by first | assumption | omega) (k_J0_isLatin1_aae02 l D q tt i (by first | assumption | omega)) gJ0_charAt_5068e_J0_isLatin1_aae02 rfl rfl rfl 0 ok_J0_isLatin1_aae02 rfl (rest := []) rfl rfl (Nat.le_of_ble_eq_true rfl) dJ0_charAt_5068e_1 ⟨(Nat.le_of_ble_eq_true rfl), (Nat.le_of_ble_eq_true rfl)⟩ ⟨(Nat.le_of_ble_eq_true rfl), (Nat.le_of_ble_eq_true rfl)⟩) (fun _ => rfl) (fun r_1 _ h_1 => ?_)
  obtain rfl := h_1
  refine g_if_eqF C 16 dJ0_charAt_5068e_4 rfl (by decide) ?_
  refine g_aloadn C dJ0_charAt_5068e_7 0 rfl rfl ?_
  refine g_svalue C i (by first | assumption | omega) w_0 dJ0_charAt_5068e_8 ?_
  refine g_iloadn C dJ0_charAt_5068e_11 1 rfl rfl ?_
  refine g_call0i C (rd_S C (k_J1_charAt_3b067 l D q tt i k (by first | assumption | omega) (by first | assumption | omega)) gJ0_charAt_5068e_J1_charAt_3b067 rfl rfl rfl 2 ok_J1_charAt_3b067 (rest := []) rfl rfl (Nat.le_of_ble_eq_true rfl) dJ0_charAt_5068e_12 ⟨(Nat.le_of_ble_eq_true rfl), (Nat.le_of_ble_eq_true rfl)⟩ ⟨(Nat.le_of_ble_eq_true rfl), (Nat.le_of_ble_eq_true rfl)⟩) (fun _ => rfl) (fun r_12 _ h_12 => ?_)
  obtain rfl := h_12
  exact g_zret C () hr (sx_nar i hi k hk) dJ0_charAt_5068e_15 (Nat.le_of_ble_eq_true rfl) (Nat.le_of_ble_eq_true rfl) rfl (rfl)

