set_option maxRecDepth 100000 in
set_option maxHeartbeats 4000000 in
theorem k_X3_isNamed (l : Launch) (D : va_G) (q : Nat → ClassId) (tt : Nat → Nat) (a : Nat → Nat) (t : TC) (U : Nat → Int32) (n : Nat) (f : Nat) (i : Nat) (hn : tL t = nI n) (hn2 : n ≤ 200) (hU : TPR (tB t) U n) (hf : f ≤ n) (hi : i < 14) : MI l D q tt yX3_isNamed wsX3_isNamed ({ frames := 4, cells := 0, slots := 0, locals := 85 } : Room) [.ref (a 0), .ref (tt (10 + i))] (tw q a ((tL t), (tB t), (nI (kdT U n f)), (nI f), (nI (EN U n f)))) (fun (r : Int32) (u : Unit) => r = (bI (nmI U n f i))) (fun (_ : Unit) => (tw q a ((tL t), (tB t), (nI (kdT U n f)), (nI f), (nI (EN U n f))))) 0 0 := by
  refine MI.of RX3 [(0, .ref (a 0)), (1, .ref (tt (10 + i)))] (by decide) rfl rfl (Nat.le_of_ble_eq_true rfl) rfl ?_
  intro p e s m args below meth c A C hr hnm
  have w_0 : ∀ w ∈ u_ws RX3 TX3 5, w ∈ wsX3_isNamed := by decide +kernel
  have w_1 : Cond.fieldLink RX3 19 (TX3 2).1 (TX3 2).2.1 (TX3 2).2.2.1 ∈ wsX3_isNamed := by decide +kernel
  have w_2 : Cond.fieldLink RX3 25 (TX3 4).1 (TX3 4).2.1 (TX3 4).2.2.1 ∈ wsX3_isNamed := by decide +kernel
  have w_3 : Cond.fieldLink RX3 22 (TX3 3).1 (TX3 3).2.1 (TX3 3).2.2.1 ∈ wsX3_isNamed := by decide +kernel
  have w_4 : Cond.fieldLink RX3 15 (TX3 1).1 (TX3 1).2.1 (TX3 1).2.2.1 ∈ wsX3_isNamed := by decide +kernel
  have hen := en_le (u := U) hf
  have htx := tx_lt i hi
  refine g_aloadn C dX3_isNamed_0 0 rfl rfl ?_
  refine g_get C fx3 w_0 0 2 (v := .int (nI (kdT U n f))) rfl (by decide) w_1 rfl dX3_isNamed_1 ?_
  refine g_iconst C 1 dX3_isNamed_4 (by decide) ?_
  refine g_icmpN_ne C 24 ((kdT U n f)) (1) dX3_isNamed_5 rfl (kd_b _ _ _) (by omega) (fun c_5 => ?_) (fun c_5 => ?_)
  · refine g_iconst C 0 dX3_isNamed_24 (by decide) ?_
    exact g_zret C () hr rfl dX3_isNamed_25 (Nat.le_of_ble_eq_true rfl) (Nat.le_of_ble_eq_true rfl) rfl ((bI_n (fun h => by first | exact c_5 h.1 | exact c_21 h.2.1 | exact c_52 ((tp_ch hU (by omega) hi (by omega)).mpr (h.2.2 k (by omega))))).symm)
  · refine g_aloadn C dX3_isNamed_8 0 rfl rfl ?_
    refine g_get C fx3 w_0 0 4 (v := .int (nI (EN U n f))) rfl (by decide) w_2 rfl dX3_isNamed_9 ?_
    refine g_aloadn C dX3_isNamed_12 0 rfl rfl ?_
    refine g_get C fx3 w_0 0 3 (v := .int (nI f)) rfl (by decide) w_3 rfl dX3_isNamed_13 ?_
    refine g_isub C dX3_isNamed_16 ?_
    refine g_topci (nI (((EN U n f)) - f)) ((ix_sub rfl rfl (by omega))) ?_
    refine g_aloadn C dX3_isNamed_17 1 rfl rfl ?_
    refine g_call0i C (rd_VS C i (by first | assumption | omega) (k_J0_length_8abf5 l D q tt i (by first | assumption | omega)) gX3_isNamed_J0_length_8abf5 rfl rfl rfl 0 ok_J0_length_8abf5 rfl (rest := [.int (nI (((EN U n f)) - f))]) rfl rfl (Nat.le_of_ble_eq_true rfl) dX3_isNamed_18 ⟨(Nat.le_of_ble_eq_true rfl), (Nat.le_of_ble_eq_true rfl)⟩ ⟨(Nat.le_of_ble_eq_true rfl), (Nat.le_of_ble_eq_true rfl)⟩) (fun _ => rfl) (fun r_18 _ h_18 => ?_)
    obtain rfl := h_18
    refine g_icmpN_eq C 26 ((((EN U n f)) - f)) ((txL.getD i 0)) dX3_isNamed_21 rfl (by omega) (by omega) (fun c_21 => ?_) (fun c_21 => ?_)
    · refine g_iconst C 0 dX3_isNamed_26 (by decide) ?_
      refine g_istoren C [(2, .int 0), (0, .ref (a 0)), (1, .ref (tt (10 + i)))] dX3_isNamed_27 rfl (by decide) rfl ?_
      have J_28 : ∀ (fu : Nat) (k : Nat), txL.getD i 0 - k < fu → (k ≤ txL.getD i 0) → (∀ j, j < k → U (f + j) = (txB.getD i []).getD j 0) → G p l e ({ frames := 4, cells := 0, slots := 0, locals := 85 } : Room) s m args below meth c 3 D A (MQ below (va_Qi (fun (r : Int32) (u : Unit) => r = (bI (nmI U n f i))) (Bw D A (fun (_ : Unit) => (tw q a ((tL t), (tB t), (nI (kdT U n f)), (nI f), (nI (EN U n f)))))) A) args s 0 0 A) 28 [(0, .ref (a 0)), (1, .ref (tt (10 + i))), (2, .int (nI k))] [] (tw q a ((tL t), (tB t), (nI (kdT U n f)), (nI f), (nI (EN U n f)))) 0 0 := by
        intro fu
        induction fu with
        | zero =>
          intro k hfu
          exact absurd hfu (Nat.not_lt_zero _)
        | succ fu ih =>
          intro k hfu hk hm
          refine g_iloadn C dX3_isNamed_28 2 rfl rfl ?_
          refine g_aloadn C dX3_isNamed_29 1 rfl rfl ?_
          refine g_call0i C (rd_VS C i (by first | assumption | omega) (k_J0_length_8abf5 l D q tt i (by first | assumption | omega)) gX3_isNamed_J0_length_8abf5 rfl rfl rfl 0 ok_J0_length_8abf5 rfl (rest := [.int (nI k)]) rfl rfl (Nat.le_of_ble_eq_true rfl) dX3_isNamed_30 ⟨(Nat.le_of_ble_eq_true rfl), (Nat.le_of_ble_eq_true rfl)⟩ ⟨(Nat.le_of_ble_eq_true rfl), (Nat.le_of_ble_eq_true rfl)⟩) (fun _ => rfl) (fun r_30 _ h_30 => ?_)
          obtain rfl := h_30
          refine g_icmpN_ge C 63 (k) ((txL.getD i 0)) dX3_isNamed_33 rfl (by omega) (by omega) (fun c_33 => ?_) (fun c_33 => ?_)
          · refine g_iconst C 1 dX3_isNamed_63 (by decide) ?_
            exact g_zret C () hr rfl dX3_isNamed_64 (Nat.le_of_ble_eq_true rfl) (Nat.le_of_ble_eq_true rfl) rfl ((bI_t ⟨c_5, c_21, fun j hj => hm j (by omega)⟩).symm)
          · refine g_aloadn C dX3_isNamed_36 0 rfl rfl ?_
            refine g_get C fx3 w_0 0 1 (v := .ref (a 1)) rfl (by decide) w_4 rfl dX3_isNamed_37 ?_
            refine g_aloadn C dX3_isNamed_40 0 rfl rfl ?_
            refine g_get C fx3 w_0 0 3 (v := .int (nI f)) rfl (by decide) w_3 rfl dX3_isNamed_41 ?_
            refine g_iloadn C dX3_isNamed_44 2 rfl rfl ?_
            refine g_iadd C dX3_isNamed_45 ?_
            refine g_topci (nI (f + k)) ((ix_add rfl rfl)) ?_
            refine g_bald C 1 ((f + k)) (f := (tB t)) rfl rfl (by omega) (by decide) dX3_isNamed_46 ?_
            refine g_aloadn C dX3_isNamed_47 1 rfl rfl ?_
            refine g_iloadn C dX3_isNamed_48 2 rfl rfl ?_
            refine g_call0i C (rd_VS C i (by first | assumption | omega) (k_J0_charAt_5068e l D q tt i k (by first | assumption | omega) (by omega)) gX3_isNamed_J0_charAt_5068e rfl rfl rfl 1 ok_J0_charAt_5068e rfl (rest := [.int ((tB t) (f + k))]) rfl rfl (Nat.le_of_ble_eq_true rfl) dX3_isNamed_49 ⟨(Nat.le_of_ble_eq_true rfl), (Nat.le_of_ble_eq_true rfl)⟩ ⟨(Nat.le_of_ble_eq_true rfl), (Nat.le_of_ble_eq_true rfl)⟩) (fun _ => rfl) (fun r_49 _ h_49 => ?_)
            obtain rfl := h_49
            refine g_icmp_eq C 57 dX3_isNamed_52 rfl (fun c_52 => ?_) (fun c_52 => ?_)
            · refine g_iinc C (nI (k + 1)) [(2, .int (nI (k + 1))), (0, .ref (a 0)), (1, .ref (tt (10 + i)))] dX3_isNamed_57 2 rfl (nI_add k 1) (by decide) rfl ?_
              refine g_goto C 28 dX3_isNamed_60 rfl ?_
              refine g_sub [1, 2, 0] (lv' := [(0, .ref (a 0)), (1, .ref (tt (10 + i))), (2, .int (nI (k + 1)))]) rfl ?_
              exact ih ((k + 1)) (by omega) (by first | assumption | omega) (nm_next hm ((tp_ch hU (by omega) hi (by omega)).mp c_52))
            · refine g_iconst C 0 dX3_isNamed_55 (by decide) ?_
              exact g_zret C () hr rfl dX3_isNamed_56 (Nat.le_of_ble_eq_true rfl) (Nat.le_of_ble_eq_true rfl) rfl ((bI_n (fun h => by first | exact c_5 h.1 | exact c_21 h.2.1 | exact c_52 ((tp_ch hU (by omega) hi (by omega)).mpr (h.2.2 k (by omega))))).symm)
      refine g_sub [1, 2, 0] (lv' := [(0, .ref (a 0)), (1, .ref (tt (10 + i))), (2, .int 0)]) rfl ?_
      exact J_28 _ (0) (Nat.lt_succ_self _) (by first | assumption | omega) (fun j h => absurd h (Nat.not_lt_zero j))
    · refine g_iconst C 0 dX3_isNamed_24 (by decide) ?_
      exact g_zret C () hr rfl dX3_isNamed_25 (Nat.le_of_ble_eq_true rfl) (Nat.le_of_ble_eq_true rfl) rfl ((bI_n (fun h => by first | exact c_5 h.1 | exact c_21 h.2.1 | exact c_52 ((tp_ch hU (by omega) hi (by omega)).mpr (h.2.2 k (by omega))))).symm)

set_option maxRecDepth 100000 in
set_option maxHeartbeats 4000000 in
theorem k_takeNameY (l : Launch) (D : va_G) (q : Nat → ClassId) (tt : Nat → Nat) (a : Nat → Nat) (t : TC) (U : Nat → Int32) (n : Nat) (f : Nat) (i : Nat) (hn : tL t = nI n) (hn2 : n ≤ 200) (hU : TPR (tB t) U n) (hf : f ≤ n) (hi : i < 14) (hb : nmI U n f i) : MI l D q tt yX3_takeName wsX3_takeName ({ frames := 5, cells := 0, slots := 0, locals := 107 } : Room) [.ref (a 0), .ref (tt (10 + i))] (tw q a ((tL t), (tB t), (nI (kdT U n f)), (nI f), (nI (EN U n f)))) (fun (r : Int32) (u : Unit) => r = 1) (fun (_ : Unit) => (tw q a ((tL t), (tB t), (nI (kdT U n (FB U n (EN U n f)))), (nI (FB U n (EN U n f))), (nI (EN U n (FB U n (EN U n f))))))) 0 0 := by
  refine MI.of RX3 [(0, .ref (a 0)), (1, .ref (tt (10 + i)))] (by decide) rfl rfl (Nat.le_of_ble_eq_true rfl) rfl ?_
  intro p e s m args below meth c A C hr hnm
  have hen := en_le (u := U) hf
  refine g_aloadn C dX3_takeName_0 0 rfl rfl ?_
  refine g_aloadn C dX3_takeName_1 1 rfl rfl ?_
  refine g_callAi C (rd_V C (k_X3_isNamed l D q tt a t U n f i (by first | assumption | omega) (by first | assumption | omega) (by first | assumption | omega) (by first | assumption | omega) (by first | assumption | omega)) gX3_takeName_X3_isNamed rfl rfl rfl 1 ok_X3_isNamed rfl 0 rfl rfl (rest := []) rfl rfl (Nat.le_of_ble_eq_true rfl) dX3_takeName_2 ⟨(Nat.le_of_ble_eq_true rfl), (Nat.le_of_ble_eq_true rfl)⟩ ⟨(Nat.le_of_ble_eq_true rfl), (Nat.le_of_ble_eq_true rfl)⟩) (fun r_2 _ h_2 => ?_)
  obtain rfl := h_2
  refine g_topci 1 (bI_t hb) ?_
  refine g_if_neT C 10 dX3_takeName_5 rfl (by decide) ?_
  refine g_aloadn C dX3_takeName_10 0 rfl rfl ?_
  refine g_callAv C (rd_V C (k_X3_next l D q tt a ((tL t), (tB t), (nI (kdT U n f)), (nI f), (tE t)) U n (EN U n f) (by first | assumption | omega) (by first | assumption | omega) (by first | assumption | omega) hen.2) gX3_takeName_X3_next rfl rfl rfl 0 ok_X3_next rfl 0 rfl rfl (rest := []) rfl rfl (Nat.le_of_ble_eq_true rfl) dX3_takeName_11 ⟨(Nat.le_of_ble_eq_true rfl), (Nat.le_of_ble_eq_true rfl)⟩ ⟨(Nat.le_of_ble_eq_true rfl), (Nat.le_of_ble_eq_true rfl)⟩) (fun _ h_11 => ?_)
  refine g_wsc (tw q a ((tL t), (tB t), (nI (kdT U n (FB U n (EN U n f)))), (nI (FB U n (EN U n f))), (nI (EN U n (FB U n (EN U n f)))))) rfl ?_
  refine g_iconst C 1 dX3_takeName_14 (by decide) ?_
  exact g_zret C () hr rfl dX3_takeName_15 (Nat.le_of_ble_eq_true rfl) (Nat.le_of_ble_eq_true rfl) rfl (rfl)

set_option maxRecDepth 100000 in
set_option maxHeartbeats 4000000 in
theorem k_takeNameN (l : Launch) (D : va_G) (q : Nat → ClassId) (tt : Nat → Nat) (a : Nat → Nat) (t : TC) (U : Nat → Int32) (n : Nat) (f : Nat) (i : Nat) (hn : tL t = nI n) (hn2 : n ≤ 200) (hU : TPR (tB t) U n) (hf : f ≤ n) (hi : i < 14) (hb : ¬ nmI U n f i) : MI l D q tt yX3_takeName wsX3_takeName ({ frames := 5, cells := 0, slots := 0, locals := 107 } : Room) [.ref (a 0), .ref (tt (10 + i))] (tw q a ((tL t), (tB t), (nI (kdT U n f)), (nI f), (nI (EN U n f)))) (fun (r : Int32) (u : Unit) => r = 0) (fun (_ : Unit) => (tw q a ((tL t), (tB t), (nI (kdT U n f)), (nI f), (nI (EN U n f))))) 0 0 := by
  refine MI.of RX3 [(0, .ref (a 0)), (1, .ref (tt (10 + i)))] (by decide) rfl rfl (Nat.le_of_ble_eq_true rfl) rfl ?_
  intro p e s m args below meth c A C hr hnm
  have hen := en_le (u := U) hf
  refine g_aloadn C dX3_takeName_0 0 rfl rfl ?_
  refine g_aloadn C dX3_takeName_1 1 rfl rfl ?_
  refine g_callAi C (rd_V C (k_X3_isNamed l D q tt a t U n f i (by first | assumption | omega) (by first | assumption | omega) (by first | assumption | omega) (by first | assumption | omega) (by first | assumption | omega)) gX3_takeName_X3_isNamed rfl rfl rfl 1 ok_X3_isNamed rfl 0 rfl rfl (rest := []) rfl rfl (Nat.le_of_ble_eq_true rfl) dX3_takeName_2 ⟨(Nat.le_of_ble_eq_true rfl), (Nat.le_of_ble_eq_true rfl)⟩ ⟨(Nat.le_of_ble_eq_true rfl), (Nat.le_of_ble_eq_true rfl)⟩) (fun r_2 _ h_2 => ?_)
  obtain rfl := h_2
  refine g_topci 0 (bI_n hb) ?_
  refine g_if_neF C 10 dX3_takeName_5 rfl (by decide) ?_
  refine g_iconst C 0 dX3_takeName_8 (by decide) ?_
  exact g_zret C () hr rfl dX3_takeName_9 (Nat.le_of_ble_eq_true rfl) (Nat.le_of_ble_eq_true rfl) rfl (rfl)

set_option maxRecDepth 100000 in
set_option maxHeartbeats 4000000 in
theorem k_takeNumY (l : Launch) (D : va_G) (q : Nat → ClassId) (tt : Nat → Nat) (a : Nat → Nat) (t : TC) (U : Nat → Int32) (n : Nat) (f : Nat) (lo : Int32) (hi_ : Int32) (hn : tL t = nI n) (hn2 : n ≤ 200) (hU : TPR (tB t) U n) (hf : f ≤ n) (hb : nbP U n f lo hi_) : MI l D q tt yX3_takeNumber wsX3_takeNumber ({ frames := 2, cells := 0, slots := 0, locals := 42 } : Room) [.ref (a 0), .int lo, .int hi_] (tw q a ((tL t), (tB t), (nI (kdT U n f)), (nI f), (nI (EN U n f)))) (fun (r : Int32) (u : Unit) => r = (vlT U n f)) (fun (_ : Unit) => (tw q a ((tL t), (tB t), (nI (kdT U n (FB U n (EN U n f)))), (nI (FB U n (EN U n f))), (nI (EN U n (FB U n (EN U n f))))))) 0 0 := by
  refine MI.of RX3 [(0, .ref (a 0)), (1, .int lo), (2, .int hi_)] (by decide) rfl rfl (Nat.le_of_ble_eq_true rfl) rfl ?_
  intro p e s m args below meth c A C hr hnm
  have w_0 : ∀ w ∈ u_ws RX3 TX3 5, w ∈ wsX3_takeNumber := by decide +kernel
  have w_1 : Cond.fieldLink RX3 19 (TX3 2).1 (TX3 2).2.1 (TX3 2).2.2.1 ∈ wsX3_takeNumber := by decide +kernel
  have w_2 : Cond.fieldLink RX3 25 (TX3 4).1 (TX3 4).2.1 (TX3 4).2.2.1 ∈ wsX3_takeNumber := by decide +kernel
  have w_3 : Cond.fieldLink RX3 22 (TX3 3).1 (TX3 3).2.1 (TX3 3).2.2.1 ∈ wsX3_takeNumber := by decide +kernel
  have w_4 : Cond.methodLinkNest RX3 130 yX4_within "HiredClaque" ∈ nwL := by decide +kernel
  have w_5 : Cond.static yX4_within ∈ wsX3_takeNumber := by decide +kernel
  have w_6 : Cond.initialized yX4_within.cls ∈ wsX3_takeNumber := by decide +kernel
  have w_7 : Cond.fieldLink RX3 15 (TX3 1).1 (TX3 1).2.1 (TX3 1).2.2.1 ∈ wsX3_takeNumber := by decide +kernel
  have hen := en_le (u := U) hf
  refine g_aloadn C dX3_takeNumber_0 0 rfl rfl ?_
  refine g_get C fx3 w_0 0 2 (v := .int (nI (kdT U n f))) rfl (by decide) w_1 rfl dX3_takeNumber_1 ?_
  refine g_iconst C 2 dX3_takeNumber_4 (by decide) ?_
  refine g_icmpN_ne C 21 ((kdT U n f)) (2) dX3_takeNumber_5 rfl (kd_b _ _ _) (by omega) (fun c_5 => ?_) (fun c_5 => ?_)
  · exfalso
    first | exact c_5 hb.1 | (have := hb.2.1; omega)
  · refine g_aloadn C dX3_takeNumber_8 0 rfl rfl ?_
    refine g_get C fx3 w_0 0 4 (v := .int (nI (EN U n f))) rfl (by decide) w_2 rfl dX3_takeNumber_9 ?_
    refine g_aloadn C dX3_takeNumber_12 0 rfl rfl ?_
    refine g_get C fx3 w_0 0 3 (v := .int (nI f)) rfl (by decide) w_3 rfl dX3_takeNumber_13 ?_
    refine g_isub C dX3_takeNumber_16 ?_
    refine g_topci (nI (((EN U n f)) - f)) ((ix_sub rfl rfl (by omega))) ?_
    refine g_iconst C 3 dX3_takeNumber_17 (by decide) ?_
    refine g_icmpN_le C 23 ((((EN U n f)) - f)) (3) dX3_takeNumber_18 rfl (by omega) (by omega) (fun c_18 => ?_) (fun c_18 => ?_)
    · have hdg : ∀ j, f ≤ j → j < EN U n f → kdT U n j = 2 := en_dg c_5
      refine g_iconst C 0 dX3_takeNumber_23 (by decide) ?_
      refine g_topci (vlN U f (f - f)) (by rw [Nat.sub_self]; first | done | rfl) ?_
      refine g_istoren C [(3, .int (vlN U f (f - f))), (0, .ref (a 0)), (1, .int lo), (2, .int hi_)] dX3_takeNumber_24 rfl (by decide) rfl ?_
      refine g_aloadn C dX3_takeNumber_25 1 rfl rfl ?_
      refine g_get C fx3 w_0 0 3 (v := .int (nI f)) rfl (by decide) w_3 rfl dX3_takeNumber_26 ?_
      refine g_istore C [(4, .int (nI f)), (3, .int (vlN U f (f - f))), (0, .ref (a 0)), (1, .int lo), (2, .int hi_)] dX3_takeNumber_29 (by decide) rfl ?_
      have J_31 : ∀ (fu : Nat) (j : Nat), EN U n f - j < fu → (f ≤ j) → (j ≤ EN U n f) → G p l e ({ frames := 2, cells := 0, slots := 0, locals := 42 } : Room) s m args below meth c 5 D A (MQ below (va_Qi (fun (r : Int32) (u : Unit) => r = (vlT U n f)) (Bw D A (fun (_ : Unit) => (tw q a ((tL t), (tB t), (nI (kdT U n (FB U n (EN U n f)))), (nI (FB U n (EN U n f))), (nI (EN U n (FB U n (EN U n f)))))))) A) args s 0 0 A) 31 [(0, .ref (a 0)), (1, .int lo), (2, .int hi_), (3, .int (vlN U f (j - f))), (4, .int (nI j))] [] (tw q a ((tL t), (tB t), (nI (kdT U n f)), (nI f), (nI (EN U n f)))) 0 0 := by
        intro fu
        induction fu with
        | zero =>
          intro j hfu
          exact absurd hfu (Nat.not_lt_zero _)
        | succ fu ih =>
          intro j hfu hj1 hj2
          refine g_iload C dX3_takeNumber_31 4 rfl ?_
          refine g_aloadn C dX3_takeNumber_33 0 rfl rfl ?_
          refine g_get C fx3 w_0 0 4 (v := .int (nI (EN U n f))) rfl (by decide) w_2 rfl dX3_takeNumber_34 ?_
          refine g_icmpN_ge C 62 (j) ((EN U n f)) dX3_takeNumber_37 rfl (by omega) (by omega) (fun c_37 => ?_) (fun c_37 => ?_)
          · have hv_ : vlT U n f = vlN U f (j - f) := by unfold vlT; rw [if_pos c_5, show EN U n f = j by omega]
            refine g_iloadn C dX3_takeNumber_62 3 rfl rfl ?_
            refine g_iloadn C dX3_takeNumber_63 1 rfl rfl ?_
            refine g_iloadn C dX3_takeNumber_64 2 rfl rfl ?_
            refine g_call0i C (rd_SN C (host := "HiredClaque") (k_X4_within l D q tt (vlN U f (j - f)) lo hi_ ) gX3_takeNumber_X4_within_n130 rfl rfl rfl 3 ok_X4_within w_4 w_5 w_6 (rest := []) rfl rfl (Nat.le_of_ble_eq_true rfl) dX3_takeNumber_65 ⟨(Nat.le_of_ble_eq_true rfl), (Nat.le_of_ble_eq_true rfl)⟩ ⟨(Nat.le_of_ble_eq_true rfl), (Nat.le_of_ble_eq_true rfl)⟩) (fun _ => rfl) (fun r_65 _ h_65 => ?_)
            obtain rfl := h_65
            refine g_ifneE C 73 dX3_takeNumber_68 rfl rfl (fun c_68 => ?_) (fun c_68 => ?_)
            · refine g_aloadn C dX3_takeNumber_73 0 rfl rfl ?_
              refine g_callAv C (rd_V C (k_X3_next l D q tt a ((tL t), (tB t), (nI (kdT U n f)), (nI f), (tE t)) U n (EN U n f) (by first | assumption | omega) (by first | assumption | omega) (by first | assumption | omega) hen.2) gX3_takeNumber_X3_next rfl rfl rfl 0 ok_X3_next rfl 0 rfl rfl (rest := []) rfl rfl (Nat.le_of_ble_eq_true rfl) dX3_takeNumber_74 ⟨(Nat.le_of_ble_eq_true rfl), (Nat.le_of_ble_eq_true rfl)⟩ ⟨(Nat.le_of_ble_eq_true rfl), (Nat.le_of_ble_eq_true rfl)⟩) (fun _ h_74 => ?_)
              refine g_wsc (tw q a ((tL t), (tB t), (nI (kdT U n (FB U n (EN U n f)))), (nI (FB U n (EN U n f))), (nI (EN U n (FB U n (EN U n f)))))) rfl ?_
              refine g_iloadn C dX3_takeNumber_77 3 rfl rfl ?_
              refine g_topci (vlT U n f) (hv_.symm) ?_
              exact g_iret C () hr dX3_takeNumber_78 (Nat.le_of_ble_eq_true rfl) (Nat.le_of_ble_eq_true rfl) rfl (rfl)
            · exfalso
              exact c_68 ⟨by rw [← hv_]; exact hb.2.2.1, by rw [← hv_]; exact hb.2.2.2⟩
          · refine g_iloadn C dX3_takeNumber_40 3 rfl rfl ?_
            refine g_bipush C 10 dX3_takeNumber_41 (by decide) ?_
            refine g_imul C dX3_takeNumber_43 ?_
            refine g_aloadn C dX3_takeNumber_44 0 rfl rfl ?_
            refine g_get C fx3 w_0 0 1 (v := .ref (a 1)) rfl (by decide) w_7 rfl dX3_takeNumber_45 ?_
            refine g_iload C dX3_takeNumber_48 4 rfl ?_
            refine g_bald C 1 (j) (f := (tB t)) rfl rfl (by omega) (by decide) dX3_takeNumber_50 ?_
            refine g_topci (U j) (tp_dg hU (hdg j (by omega) (by omega))) ?_
            refine g_iadd C dX3_takeNumber_51 ?_
            refine g_bipush C 48 dX3_takeNumber_52 (by decide) ?_
            refine g_isub C dX3_takeNumber_54 ?_
            refine g_topci (vlN U f (j + 1 - f)) (by have h_ := vl_own (u := U) (n := n) (f := f) (k := j - f) (by omega) (fun i hi => hdg (f + i) (by omega) (by omega)); rw [show f + (j - f) = j by omega, show j - f + 1 = j + 1 - f by omega] at h_; exact h_) ?_
            refine g_istoren C [(3, .int (vlN U f (j + 1 - f))), (0, .ref (a 0)), (1, .int lo), (2, .int hi_), (4, .int (nI j))] dX3_takeNumber_55 rfl (by decide) rfl ?_
            refine g_iinc C (nI (j + 1)) [(4, .int (nI (j + 1))), (3, .int (vlN U f (j + 1 - f))), (0, .ref (a 0)), (1, .int lo), (2, .int hi_)] dX3_takeNumber_56 4 rfl (nI_add j 1) (by decide) rfl ?_
            refine g_goto C 31 dX3_takeNumber_59 rfl ?_
            refine g_sub [2, 3, 4, 1, 0] (lv' := [(0, .ref (a 0)), (1, .int lo), (2, .int hi_), (3, .int (vlN U f (j + 1 - f))), (4, .int (nI (j + 1)))]) rfl ?_
            exact ih ((j + 1)) (by omega) (by first | assumption | omega) (by first | assumption | omega)
      refine g_sub [2, 3, 4, 1, 0] (lv' := [(0, .ref (a 0)), (1, .int lo), (2, .int hi_), (3, .int (vlN U f (f - f))), (4, .int (nI f))]) rfl ?_
      exact J_31 _ (f) (Nat.lt_succ_self _) (Nat.le_refl f) hen.1
    · exfalso
      first | exact c_5 hb.1 | (have := hb.2.1; omega)

set_option maxRecDepth 100000 in
set_option maxHeartbeats 4000000 in
theorem k_takeNumN (l : Launch) (D : va_G) (q : Nat → ClassId) (tt : Nat → Nat) (a : Nat → Nat) (t : TC) (U : Nat → Int32) (n : Nat) (f : Nat) (lo : Int32) (hi_ : Int32) (hn : tL t = nI n) (hn2 : n ≤ 200) (hU : TPR (tB t) U n) (hf : f ≤ n) (hb : ¬ nbP U n f lo hi_) : MI l D q tt yX3_takeNumber wsX3_takeNumber ({ frames := 1, cells := 0, slots := 0, locals := 22 } : Room) [.ref (a 0), .int lo, .int hi_] (tw q a ((tL t), (tB t), (nI (kdT U n f)), (nI f), (nI (EN U n f)))) (fun (r : Int32) (u : Unit) => r = (-1)) (fun (_ : Unit) => (tw q a ((tL t), (tB t), (nI (kdT U n f)), (nI f), (nI (EN U n f))))) 0 0 := by
  refine MI.of RX3 [(0, .ref (a 0)), (1, .int lo), (2, .int hi_)] (by decide) rfl rfl (Nat.le_of_ble_eq_true rfl) rfl ?_
  intro p e s m args below meth c A C hr hnm
  have w_0 : ∀ w ∈ u_ws RX3 TX3 5, w ∈ wsX3_takeNumber := by decide +kernel
  have w_1 : Cond.fieldLink RX3 19 (TX3 2).1 (TX3 2).2.1 (TX3 2).2.2.1 ∈ wsX3_takeNumber := by decide +kernel
  have w_2 : Cond.fieldLink RX3 25 (TX3 4).1 (TX3 4).2.1 (TX3 4).2.2.1 ∈ wsX3_takeNumber := by decide +kernel
  have w_3 : Cond.fieldLink RX3 22 (TX3 3).1 (TX3 3).2.1 (TX3 3).2.2.1 ∈ wsX3_takeNumber := by decide +kernel
  have w_4 : Cond.methodLinkNest RX3 130 yX4_within "HiredClaque" ∈ nwL := by decide +kernel
  have w_5 : Cond.static yX4_within ∈ wsX3_takeNumber := by decide +kernel
  have w_6 : Cond.initialized yX4_within.cls ∈ wsX3_takeNumber := by decide +kernel
  have w_7 : Cond.fieldLink RX3 15 (TX3 1).1 (TX3 1).2.1 (TX3 1).2.2.1 ∈ wsX3_takeNumber := by decide +kernel
  have hen := en_le (u := U) hf
  refine g_aloadn C dX3_takeNumber_0 0 rfl rfl ?_
  refine g_get C fx3 w_0 0 2 (v := .int (nI (kdT U n f))) rfl (by decide) w_1 rfl dX3_takeNumber_1 ?_
  refine g_iconst C 2 dX3_takeNumber_4 (by decide) ?_
  refine g_icmpN_ne C 21 ((kdT U n f)) (2) dX3_takeNumber_5 rfl (kd_b _ _ _) (by omega) (fun c_5 => ?_) (fun c_5 => ?_)
  · refine g_iconst C (-1) dX3_takeNumber_21 (by decide) ?_
    exact g_iret C () hr dX3_takeNumber_22 (Nat.le_of_ble_eq_true rfl) (Nat.le_of_ble_eq_true rfl) rfl (rfl)
  · refine g_aloadn C dX3_takeNumber_8 0 rfl rfl ?_
    refine g_get C fx3 w_0 0 4 (v := .int (nI (EN U n f))) rfl (by decide) w_2 rfl dX3_takeNumber_9 ?_
    refine g_aloadn C dX3_takeNumber_12 0 rfl rfl ?_
    refine g_get C fx3 w_0 0 3 (v := .int (nI f)) rfl (by decide) w_3 rfl dX3_takeNumber_13 ?_
    refine g_isub C dX3_takeNumber_16 ?_
    refine g_topci (nI (((EN U n f)) - f)) ((ix_sub rfl rfl (by omega))) ?_
    refine g_iconst C 3 dX3_takeNumber_17 (by decide) ?_
    refine g_icmpN_le C 23 ((((EN U n f)) - f)) (3) dX3_takeNumber_18 rfl (by omega) (by omega) (fun c_18 => ?_) (fun c_18 => ?_)
    · have hdg : ∀ j, f ≤ j → j < EN U n f → kdT U n j = 2 := en_dg c_5
      refine g_iconst C 0 dX3_takeNumber_23 (by decide) ?_
      refine g_topci (vlN U f (f - f)) (by rw [Nat.sub_self]; first | done | rfl) ?_
      refine g_istoren C [(3, .int (vlN U f (f - f))), (0, .ref (a 0)), (1, .int lo), (2, .int hi_)] dX3_takeNumber_24 rfl (by decide) rfl ?_
      refine g_aloadn C dX3_takeNumber_25 1 rfl rfl ?_
      refine g_get C fx3 w_0 0 3 (v := .int (nI f)) rfl (by decide) w_3 rfl dX3_takeNumber_26 ?_
      refine g_istore C [(4, .int (nI f)), (3, .int (vlN U f (f - f))), (0, .ref (a 0)), (1, .int lo), (2, .int hi_)] dX3_takeNumber_29 (by decide) rfl ?_
      have J_31 : ∀ (fu : Nat) (j : Nat), EN U n f - j < fu → (f ≤ j) → (j ≤ EN U n f) → G p l e ({ frames := 1, cells := 0, slots := 0, locals := 22 } : Room) s m args below meth c 5 D A (MQ below (va_Qi (fun (r : Int32) (u : Unit) => r = (-1)) (Bw D A (fun (_ : Unit) => (tw q a ((tL t), (tB t), (nI (kdT U n f)), (nI f), (nI (EN U n f)))))) A) args s 0 0 A) 31 [(0, .ref (a 0)), (1, .int lo), (2, .int hi_), (3, .int (vlN U f (j - f))), (4, .int (nI j))] [] (tw q a ((tL t), (tB t), (nI (kdT U n f)), (nI f), (nI (EN U n f)))) 0 0 := by
        intro fu
        induction fu with
        | zero =>
          intro j hfu
          exact absurd hfu (Nat.not_lt_zero _)
        | succ fu ih =>
          intro j hfu hj1 hj2
          refine g_iload C dX3_takeNumber_31 4 rfl ?_
          refine g_aloadn C dX3_takeNumber_33 0 rfl rfl ?_
          refine g_get C fx3 w_0 0 4 (v := .int (nI (EN U n f))) rfl (by decide) w_2 rfl dX3_takeNumber_34 ?_
          refine g_icmpN_ge C 62 (j) ((EN U n f)) dX3_takeNumber_37 rfl (by omega) (by omega) (fun c_37 => ?_) (fun c_37 => ?_)
          · have hv_ : vlT U n f = vlN U f (j - f) := by unfold vlT; rw [if_pos c_5, show EN U n f = j by omega]
            refine g_iloadn C dX3_takeNumber_62 3 rfl rfl ?_
            refine g_iloadn C dX3_takeNumber_63 1 rfl rfl ?_
            refine g_iloadn C dX3_takeNumber_64 2 rfl rfl ?_
            refine g_call0i C (rd_SN C (host := "HiredClaque") (k_X4_within l D q tt (vlN U f (j - f)) lo hi_ ) gX3_takeNumber_X4_within_n130 rfl rfl rfl 3 ok_X4_within w_4 w_5 w_6 (rest := []) rfl rfl (Nat.le_of_ble_eq_true rfl) dX3_takeNumber_65 ⟨(Nat.le_of_ble_eq_true rfl), (Nat.le_of_ble_eq_true rfl)⟩ ⟨(Nat.le_of_ble_eq_true rfl), (Nat.le_of_ble_eq_true rfl)⟩) (fun _ => rfl) (fun r_65 _ h_65 => ?_)
            obtain rfl := h_65
            refine g_ifneE C 73 dX3_takeNumber_68 rfl rfl (fun c_68 => ?_) (fun c_68 => ?_)
            · exfalso
              exact hb ⟨c_5, c_18, by rw [hv_]; exact c_68.1, by rw [hv_]; exact c_68.2⟩
            · refine g_iconst C (-1) dX3_takeNumber_71 (by decide) ?_
              exact g_iret C () hr dX3_takeNumber_72 (Nat.le_of_ble_eq_true rfl) (Nat.le_of_ble_eq_true rfl) rfl (rfl)
          · refine g_iloadn C dX3_takeNumber_40 3 rfl rfl ?_
            refine g_bipush C 10 dX3_takeNumber_41 (by decide) ?_
            refine g_imul C dX3_takeNumber_43 ?_
            refine g_aloadn C dX3_takeNumber_44 0 rfl rfl ?_
            refine g_get C fx3 w_0 0 1 (v := .ref (a 1)) rfl (by decide) w_7 rfl dX3_takeNumber_45 ?_
            refine g_iload C dX3_takeNumber_48 4 rfl ?_
            refine g_bald C 1 (j) (f := (tB t)) rfl rfl (by omega) (by decide) dX3_takeNumber_50 ?_
            refine g_topci (U j) (tp_dg hU (hdg j (by omega) (by omega))) ?_
            refine g_iadd C dX3_takeNumber_51 ?_
            refine g_bipush C 48 dX3_takeNumber_52 (by decide) ?_
            refine g_isub C dX3_takeNumber_54 ?_
            refine g_topci (vlN U f (j + 1 - f)) (by have h_ := vl_own (u := U) (n := n) (f := f) (k := j - f) (by omega) (fun i hi => hdg (f + i) (by omega) (by omega)); rw [show f + (j - f) = j by omega, show j - f + 1 = j + 1 - f by omega] at h_; exact h_) ?_
            refine g_istoren C [(3, .int (vlN U f (j + 1 - f))), (0, .ref (a 0)), (1, .int lo), (2, .int hi_), (4, .int (nI j))] dX3_takeNumber_55 rfl (by decide) rfl ?_
            refine g_iinc C (nI (j + 1)) [(4, .int (nI (j + 1))), (3, .int (vlN U f (j + 1 - f))), (0, .ref (a 0)), (1, .int lo), (2, .int hi_)] dX3_takeNumber_56 4 rfl (nI_add j 1) (by decide) rfl ?_
            refine g_goto C 31 dX3_takeNumber_59 rfl ?_
            refine g_sub [2, 3, 4, 1, 0] (lv' := [(0, .ref (a 0)), (1, .int lo), (2, .int hi_), (3, .int (vlN U f (j + 1 - f))), (4, .int (nI (j + 1)))]) rfl ?_
            exact ih ((j + 1)) (by omega) (by first | assumption | omega) (by first | assumption | omega)
      refine g_sub [2, 3, 4, 1, 0] (lv' := [(0, .ref (a 0)), (1, .int lo), (2, .int hi_), (3, .int (vlN U f (f - f))), (4, .int (nI f))]) rfl ?_
      exact J_31 _ (f) (Nat.lt_succ_self _) (Nat.le_refl f) hen.1
    · refine g_iconst C (-1) dX3_takeNumber_21 (by decide) ?_
      exact g_iret C () hr dX3_takeNumber_22 (Nat.le_of_ble_eq_true rfl) (Nat.le_of_ble_eq_true rfl) rfl (rfl)

set_option maxRecDepth 100000 in
set_option maxHeartbeats 4000000 in
theorem k_takeSemiY (l : Launch) (D : va_G) (q : Nat → ClassId) (tt : Nat → Nat) (a : Nat → Nat) (t : TC) (U : Nat → Int32) (n : Nat) (f : Nat) (hn : tL t = nI n) (hn2 : n ≤ 200) (hU : TPR (tB t) U n) (hf : f ≤ n) (hb : (kdT U n f = 3 ∧ U f = 59)) : MI l D q tt yX3_takeSemicolon wsX3_takeSemicolon ({ frames := 2, cells := 0, slots := 0, locals := 42 } : Room) [.ref (a 0)] (tw q a ((tL t), (tB t), (nI (kdT U n f)), (nI f), (nI (EN U n f)))) (fun (r : Int32) (u : Unit) => r = 1) (fun (_ : Unit) => (tw q a ((tL t), (tB t), (nI (kdT U n (FB U n (EN U n f)))), (nI (FB U n (EN U n f))), (nI (EN U n (FB U n (EN U n f))))))) 0 0 := by
  refine MI.of RX3 [(0, .ref (a 0))] (by decide) rfl rfl (Nat.le_of_ble_eq_true rfl) rfl ?_
  intro p e s m args below meth c A C hr hnm
  have w_0 : ∀ w ∈ u_ws RX3 TX3 5, w ∈ wsX3_takeSemicolon := by decide +kernel
  have w_1 : Cond.fieldLink RX3 19 (TX3 2).1 (TX3 2).2.1 (TX3 2).2.2.1 ∈ wsX3_takeSemicolon := by decide +kernel
  have w_2 : Cond.fieldLink RX3 15 (TX3 1).1 (TX3 1).2.1 (TX3 1).2.2.1 ∈ wsX3_takeSemicolon := by decide +kernel
  have w_3 : Cond.fieldLink RX3 22 (TX3 3).1 (TX3 3).2.1 (TX3 3).2.2.1 ∈ wsX3_takeSemicolon := by decide +kernel
  have hen := en_le (u := U) hf
  refine g_aloadn C dX3_takeSemicolon_0 0 rfl rfl ?_
  refine g_get C fx3 w_0 0 2 (v := .int (nI (kdT U n f))) rfl (by decide) w_1 rfl dX3_takeSemicolon_1 ?_
  refine g_iconst C 3 dX3_takeSemicolon_4 (by decide) ?_
  refine g_icmpN_ne C 22 ((kdT U n f)) (3) dX3_takeSemicolon_5 rfl (kd_b _ _ _) (by omega) (fun c_5 => ?_) (fun c_5 => ?_)
  · exfalso
    first | exact c_5 hb.1 | exact c_19 ((tp_59 hU hfn).mpr hb.2)
  · have hfn : f < n := kd_lt (by rw [c_5]; decide)
    refine g_aloadn C dX3_takeSemicolon_8 0 rfl rfl ?_
    refine g_get C fx3 w_0 0 1 (v := .ref (a 1)) rfl (by decide) w_2 rfl dX3_takeSemicolon_9 ?_
    refine g_aloadn C dX3_takeSemicolon_12 0 rfl rfl ?_
    refine g_get C fx3 w_0 0 3 (v := .int (nI f)) rfl (by decide) w_3 rfl dX3_takeSemicolon_13 ?_
    refine g_bald C 1 (f) (f := (tB t)) rfl rfl (by omega) (by decide) dX3_takeSemicolon_16 ?_
    refine g_bipush C 59 dX3_takeSemicolon_17 (by decide) ?_
    refine g_icmp_eq C 24 dX3_takeSemicolon_19 rfl (fun c_19 => ?_) (fun c_19 => ?_)
    · refine g_aloadn C dX3_takeSemicolon_24 0 rfl rfl ?_
      refine g_callAv C (rd_V C (k_X3_next l D q tt a ((tL t), (tB t), (nI (kdT U n f)), (nI f), (tE t)) U n (EN U n f) (by first | assumption | omega) (by first | assumption | omega) (by first | assumption | omega) hen.2) gX3_takeSemicolon_X3_next rfl rfl rfl 0 ok_X3_next rfl 0 rfl rfl (rest := []) rfl rfl (Nat.le_of_ble_eq_true rfl) dX3_takeSemicolon_25 ⟨(Nat.le_of_ble_eq_true rfl), (Nat.le_of_ble_eq_true rfl)⟩ ⟨(Nat.le_of_ble_eq_true rfl), (Nat.le_of_ble_eq_true rfl)⟩) (fun _ h_25 => ?_)
      refine g_wsc (tw q a ((tL t), (tB t), (nI (kdT U n (FB U n (EN U n f)))), (nI (FB U n (EN U n f))), (nI (EN U n (FB U n (EN U n f)))))) rfl ?_
      refine g_iconst C 1 dX3_takeSemicolon_28 (by decide) ?_
      exact g_zret C () hr rfl dX3_takeSemicolon_29 (Nat.le_of_ble_eq_true rfl) (Nat.le_of_ble_eq_true rfl) rfl (rfl)
    · exfalso
      first | exact c_5 hb.1 | exact c_19 ((tp_59 hU hfn).mpr hb.2)

