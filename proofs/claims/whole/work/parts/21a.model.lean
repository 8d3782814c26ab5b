set_option maxRecDepth 100000 in
set_option maxHeartbeats 4000000 in
theorem k_X5_product (l : Launch) (D : va_G) (q : Nat → ClassId) (tt : Nat → Nat) (n : Nat) (hn : n < 9) : ML l D q tt yX5_product wsX5_product ({ frames := 0, cells := 0, slots := 0, locals := 0 } : Room) [.int (nI n)] [] (fun (r : Int64) (u : Unit) => r = (lN (fcN n))) (fun (_ : Unit) => []) 0 0 := by
  refine ML.of RX5 [(0, .int (nI n))] (by decide) rfl rfl (Nat.le_of_ble_eq_true rfl) rfl ?_
  intro p e s m args below meth c A C hr hnm
  refine g_lconst C 1 dX5_product_0 (by decide) ?_
  refine g_lstoren C [(1, .long 1), (0, .int (nI n))] dX5_product_1 rfl (by decide) rfl ?_
  refine g_iconst C 2 dX5_product_2 (by decide) ?_
  refine g_istoren C [(3, .int 2), (1, .long 1), (0, .int (nI n))] dX5_product_3 rfl (by decide) rfl ?_
  have J_4 : ∀ (fu : Nat) (u : Nat), n - u < fu → (u = 0 ∨ u + 1 ≤ n) → G p l e ({ frames := 0, cells := 0, slots := 0, locals := 0 } : Room) s m args below meth c 4 D A (MQ below (va_Ql (fun (r : Int64) (u : Unit) => r = (lN (fcN n))) (Bw D A (fun (_ : Unit) => [])) A) args s 0 0 A) 4 [(0, .int (nI n)), (1, .long (lN (fcN (u + 1)))), (3, .int (nI (u + 2)))] [] [] 0 0 := by
    intro fu
    induction fu with
    | zero =>
      intro u hfu
      exact absurd hfu (Nat.not_lt_zero _)
    | succ fu ih =>
      intro u hfu hu
      refine g_iloadn C dX5_product_4 2 rfl rfl ?_
      refine g_iloadn C dX5_product_5 0 rfl rfl ?_
      refine g_icmpN_gt C 20 ((u + 2)) (n) dX5_product_6 rfl (by omega) (by omega) (fun c_6 => ?_) (fun c_6 => ?_)
      · refine g_lloadn C dX5_product_20 1 rfl rfl ?_
        exact g_lret C () hr dX5_product_21 (Nat.le_of_ble_eq_true rfl) (Nat.le_of_ble_eq_true rfl) rfl (by
            have h_ : n = u + 1 ∨ (n = 0 ∧ u = 0) := by omega
            rcases h_ with h_ | ⟨h_, h2_⟩
            · rw [h_]
            · rw [h_, h2_]; rfl)
      · refine g_lloadn C dX5_product_9 1 rfl rfl ?_
        refine g_iloadn C dX5_product_10 2 rfl rfl ?_
        refine g_i2l C dX5_product_11 ?_
        refine g_topcl (lN (u + 2)) (nI_l (by omega)) ?_
        refine g_lmul C dX5_product_12 ?_
        refine g_topcl (lN (fcN (u + 1 + 1))) (lN_mul _ _) ?_
        refine g_lstoren C [(1, .long (lN (fcN (u + 1 + 1)))), (0, .int (nI n)), (3, .int (nI (u + 2)))] dX5_product_13 rfl (by decide) rfl ?_
        refine g_iinc C (nI ((u + 2) + 1)) [(3, .int (nI ((u + 2) + 1))), (1, .long (lN (fcN (u + 1 + 1)))), (0, .int (nI n))] dX5_product_14 2 rfl (nI_add (u + 2) 1) (by decide) rfl ?_
        refine g_goto C 4 dX5_product_17 rfl ?_
        refine g_sub [2, 1, 0] (lv' := [(0, .int (nI n)), (1, .long (lN (fcN (u + 1 + 1)))), (3, .int (nI ((u + 2) + 1)))]) rfl ?_
        exact ih ((u + 1)) (by omega) (Or.inr (by omega))
  refine g_sub [2, 1, 0] (lv' := [(0, .int (nI n)), (1, .long 1), (3, .int 2)]) rfl ?_
  exact J_4 _ (0) (Nat.lt_succ_self _) (Or.inl rfl)

set_option maxRecDepth 100000 in
set_option maxHeartbeats 4000000 in
theorem k_X5_partOf (l : Launch) (D : va_G) (q : Nat → ClassId) (tt : Nat → Nat) (x : Nat) (y : Nat) (z : Int32) (hx : x < 2 ^ 63) (hy : y < 2 ^ 63) (h0 : 0 < y) : ML l D q tt yX5_partOf wsX5_partOf ({ frames := 0, cells := 0, slots := 0, locals := 0 } : Room) [.long (lN x), .long (lN y), .int z] [] (fun (r : Int64) (u : Unit) => r = (R_part x y z)) (fun (_ : Unit) => []) 0 0 := by
  refine ML.of RX5 [(0, .long (lN x)), (2, .long (lN y)), (4, .int z)] (by decide) rfl rfl (Nat.le_of_ble_eq_true rfl) rfl ?_
  intro p e s m args below meth c A C hr hnm
  have hgp : 0 < Nat.gcd x y := Nat.gcd_pos_of_pos_right x h0
  have hgl : Nat.gcd x y < 2 ^ 63 := Nat.lt_of_le_of_lt (Nat.gcd_le_right x h0) hy
  refine g_lloadn C dX5_partOf_0 1 rfl rfl ?_
  refine g_lstore C [(5, .long (lN y)), (0, .long (lN x)), (2, .long (lN y)), (4, .int z)] dX5_partOf_1 (by decide) rfl ?_
  refine g_lloadn C dX5_partOf_3 1 rfl rfl ?_
  refine g_lstore C [(7, .long (lN x)), (5, .long (lN y)), (0, .long (lN x)), (2, .long (lN y)), (4, .int z)] dX5_partOf_4 (by decide) rfl ?_
  have J_6 : ∀ (fu : Nat) (x1 : Nat) (y1 : Nat), y1 < fu → (x1 < 2 ^ 63) → (y1 < 2 ^ 63) → (Nat.gcd x1 y1 = (Nat.gcd x y)) → G p l e ({ frames := 0, cells := 0, slots := 0, locals := 0 } : Room) s m args below meth c 11 D A (MQ below (va_Ql (fun (r : Int64) (u : Unit) => r = (R_part x y z)) (Bw D A (fun (_ : Unit) => [])) A) args s 0 0 A) 6 [(0, .long (lN x)), (2, .long (lN y)), (4, .int z), (5, .long (lN x1)), (7, .long (lN y1))] [] [] 0 0 := by
    intro fu
    induction fu with
    | zero =>
      intro x1 y1 hfu
      exact absurd hfu (Nat.not_lt_zero _)
    | succ fu ih =>
      intro x1 y1 hfu hx1 hy1 hg
      refine g_lload C dX5_partOf_6 4 rfl ?_
      refine g_lconst C 0 dX5_partOf_8 (by decide) ?_
      refine g_lcmp C dX5_partOf_9 ?_
      refine g_topci (bI (¬ y1 = 0)) (lg_b0 hy1) ?_
      refine g_ifeqE C 31 dX5_partOf_10 rfl rfl (fun c_10 => ?_) (fun c_10 => ?_)
      · refine g_iload C dX5_partOf_31 2 rfl ?_
        refine g_if_ne C 43 dX5_partOf_33 rfl (fun c_33 => ?_) (fun c_33 => ?_)
        · refine g_lloadn C dX5_partOf_43 1 rfl rfl ?_
          refine g_lload C dX5_partOf_44 3 rfl ?_
          refine g_topcl (lN (Nat.gcd x y)) (by rw [← hg, show y1 = 0 by omega, Nat.gcd_zero_right]) ?_
          refine g_ldiv C dX5_partOf_46 (lN_ne (by omega) hgl) ?_
          refine g_topcl (lN (y / (Nat.gcd x y))) (pk_lDiv hy hgp hgl) ?_
          exact g_lret C () hr dX5_partOf_47 (Nat.le_of_ble_eq_true rfl) (Nat.le_of_ble_eq_true rfl) rfl (by unfold R_part; first | rw [if_pos c_33] | rw [if_neg c_33])
        · refine g_lloadn C dX5_partOf_36 0 rfl rfl ?_
          refine g_lload C dX5_partOf_37 3 rfl ?_
          refine g_topcl (lN (Nat.gcd x y)) (by rw [← hg, show y1 = 0 by omega, Nat.gcd_zero_right]) ?_
          refine g_ldiv C dX5_partOf_39 (lN_ne (by omega) hgl) ?_
          refine g_topcl (lN (x / (Nat.gcd x y))) (pk_lDiv hx hgp hgl) ?_
          refine g_goto C 47 dX5_partOf_40 rfl ?_
          exact g_lret C () hr dX5_partOf_47 (Nat.le_of_ble_eq_true rfl) (Nat.le_of_ble_eq_true rfl) rfl (by unfold R_part; first | rw [if_pos c_33] | rw [if_neg c_33])
      · have hm_ := Nat.mod_lt x1 (show 0 < y1 by omega)
        refine g_lload C dX5_partOf_13 3 rfl ?_
        refine g_lload C dX5_partOf_15 4 rfl ?_
        refine g_lrem C dX5_partOf_17 (lN_ne c_10 hy1) ?_
        refine g_topcl (lN (x1 % y1)) (pk_lRem hx1 (by omega) hy1) ?_
        refine g_lstore C [(9, .long (lN (x1 % y1))), (0, .long (lN x)), (2, .long (lN y)), (4, .int z), (5, .long (lN x1)), (7, .long (lN y1))] dX5_partOf_18 (by decide) rfl ?_
        refine g_lload C dX5_partOf_20 5 rfl ?_
        refine g_lstore C [(5, .long (lN y1)), (9, .long (lN (x1 % y1))), (0, .long (lN x)), (2, .long (lN y)), (4, .int z), (7, .long (lN y1))] dX5_partOf_22 (by decide) rfl ?_
        refine g_lload C dX5_partOf_24 1 rfl ?_
        refine g_lstore C [(7, .long (lN (x1 % y1))), (5, .long (lN y1)), (9, .long (lN (x1 % y1))), (0, .long (lN x)), (2, .long (lN y)), (4, .int z)] dX5_partOf_26 (by decide) rfl ?_
        refine g_goto C 6 dX5_partOf_28 rfl ?_
        refine g_sub [3, 4, 5, 1, 0] (lv' := [(0, .long (lN x)), (2, .long (lN y)), (4, .int z), (5, .long (lN y1)), (7, .long (lN (x1 % y1)))]) rfl ?_
        exact ih (y1) ((x1 % y1)) (by omega) hy1 (by omega) ((gcd_st x1 y1).trans hg)
  refine g_sub [2, 3, 4, 1, 0] (lv' := [(0, .long (lN x)), (2, .long (lN y)), (4, .int z), (5, .long (lN y)), (7, .long (lN x))]) rfl ?_
  exact J_6 _ (y) (x) (Nat.lt_succ_self _) hy hx (Nat.gcd_comm y x)

set_option maxRecDepth 100000 in
set_option maxHeartbeats 4000000 in
theorem k_X5_odds (l : Launch) (D : va_G) (q : Nat → ClassId) (tt : Nat → Nat) (a : Nat → Nat) (v : MC) (N : Nat) (x : Int32) (y : Int32) (z : Int32) (hG : Gd (m_s v) N) : ML l D q tt yX5_odds wsX5_odds ({ frames := 1, cells := 0, slots := 0, locals := 30 } : Room) [.ref (a 0), .int x, .int y, .int z] (mw q a v) (fun (r : Int64) (u : Unit) => r = R_odds (m_s v) x y z) (fun (_ : Unit) => (mw q a v)) 0 0 := by
  refine ML.of RX5 [(0, .ref (a 0)), (1, .int x), (2, .int y), (3, .int z)] (by decide) rfl rfl (Nat.le_of_ble_eq_true rfl) rfl ?_
  intro p e s m args below meth c A C hr hnm
  have w_0 : Cond.constantLong RX5 62 (8) ∈ wsX5_odds := by decide +kernel
  have w_1 : Cond.constantLong RX5 255 (-1) ∈ wsX5_odds := by decide +kernel
  have w_2 : ∀ w ∈ u_ws RX5 TX5 29, w ∈ wsX5_odds := by decide +kernel
  have w_3 : Cond.fieldLink RX5 7 (TX5 0).1 (TX5 0).2.1 (TX5 0).2.2.1 ∈ wsX5_odds := by decide +kernel
  have w_4 : Cond.constantLong RX5 261 (100) ∈ wsX5_odds := by decide +kernel
  have h8 := hG.le
  refine g_iloadn C dX5_odds_0 1 rfl rfl ?_
  refine g_i2l C dX5_odds_1 ?_
  refine g_lconst C 0 dX5_odds_2 (by decide) ?_
  refine g_ldc2 C (8) dX5_odds_3 w_0 ?_
  refine g_call0i C (rd_S C (k_isIn32 l D q tt (x) 0 (8) 0 (8) (by first | rfl | decide) (by first | rfl | decide)) gX5_odds_X5_isIn rfl rfl rfl 3 ok_X5_isIn (rest := []) rfl rfl (Nat.le_of_ble_eq_true rfl) dX5_odds_6 ⟨(Nat.le_of_ble_eq_true rfl), (Nat.le_of_ble_eq_true rfl)⟩ ⟨(Nat.le_of_ble_eq_true rfl), (Nat.le_of_ble_eq_true rfl)⟩) (fun _ => rfl) (fun r_6 _ h_6 => ?_)
  obtain rfl := h_6
  refine g_ifeqE C 33 dX5_odds_9 rfl rfl (fun c_9 => ?_) (fun c_9 => ?_)
  · refine g_ldc2 C (-1) dX5_odds_33 w_1 ?_
    exact g_lret C () hr dX5_odds_36 (Nat.le_of_ble_eq_true rfl) (Nat.le_of_ble_eq_true rfl) rfl (by unfold R_odds; rw [if_neg (fun q => by first | exact c_9 q.1 | exact c_20 q.2.1 | exact c_30 q.2.2)])
  · refine g_iloadn C dX5_odds_12 2 rfl rfl ?_
    refine g_i2l C dX5_odds_13 ?_
    refine g_lconst C 0 dX5_odds_14 (by decide) ?_
    refine g_iloadn C dX5_odds_15 1 rfl rfl ?_
    refine g_i2l C dX5_odds_16 ?_
    refine g_call0i C (rd_S C (k_isIn32 l D q tt (y) 0 x 0 ((x).toInt64) (by first | rfl | decide) rfl) gX5_odds_X5_isIn rfl rfl rfl 3 ok_X5_isIn (rest := []) rfl rfl (Nat.le_of_ble_eq_true rfl) dX5_odds_17 ⟨(Nat.le_of_ble_eq_true rfl), (Nat.le_of_ble_eq_true rfl)⟩ ⟨(Nat.le_of_ble_eq_true rfl), (Nat.le_of_ble_eq_true rfl)⟩) (fun _ => rfl) (fun r_17 _ h_17 => ?_)
    obtain rfl := h_17
    refine g_ifeqE C 33 dX5_odds_20 rfl rfl (fun c_20 => ?_) (fun c_20 => ?_)
    · refine g_ldc2 C (-1) dX5_odds_33 w_1 ?_
      exact g_lret C () hr dX5_odds_36 (Nat.le_of_ble_eq_true rfl) (Nat.le_of_ble_eq_true rfl) rfl (by unfold R_odds; rw [if_neg (fun q => by first | exact c_9 q.1 | exact c_20 q.2.1 | exact c_30 q.2.2)])
    · refine g_iloadn C dX5_odds_23 3 rfl rfl ?_
      refine g_i2l C dX5_odds_24 ?_
      refine g_lconst C 0 dX5_odds_25 (by decide) ?_
      refine g_lconst C 1 dX5_odds_26 (by decide) ?_
      refine g_call0i C (rd_S C (k_isIn32 l D q tt (z) 0 1 0 1 (by first | rfl | decide) (by first | rfl | decide)) gX5_odds_X5_isIn rfl rfl rfl 3 ok_X5_isIn (rest := []) rfl rfl (Nat.le_of_ble_eq_true rfl) dX5_odds_27 ⟨(Nat.le_of_ble_eq_true rfl), (Nat.le_of_ble_eq_true rfl)⟩ ⟨(Nat.le_of_ble_eq_true rfl), (Nat.le_of_ble_eq_true rfl)⟩) (fun _ => rfl) (fun r_27 _ h_27 => ?_)
      obtain rfl := h_27
      refine g_ifneE C 37 dX5_odds_30 rfl rfl (fun c_30 => ?_) (fun c_30 => ?_)
      · obtain ⟨n, hn, en, en2⟩ := ix_le (n := 8) (by omega) c_9
        obtain ⟨k, hk, ek, ek2⟩ := ix_le (x := y) (n := n) (by omega) ⟨c_20.1, by rw [← en]; exact c_20.2⟩
        obtain ⟨w, hw_, ew⟩ := hG.2.2.2.2.1
        have hbk := bi_le n (by omega) k (by omega)
        have f1 := fc_le n (by omega)
        have f2 := fc_le k (by omega)
        have f3 := fc_le (n - k) (by omega)
        have f4 := fc_ne k (by omega)
        have f5 := fc_ne (n - k) (by omega)
        have f6 := Nat.div_le_self (fcN n) (fcN k)
        refine g_iloadn C dX5_odds_37 1 rfl rfl ?_
        refine g_topci (nI n) (en) ?_
        refine g_call0l C (rd_S C (k_X5_product l D q tt n (by first | assumption | omega)) gX5_odds_X5_product rfl rfl rfl 1 ok_X5_product (rest := []) rfl rfl (Nat.le_of_ble_eq_true rfl) dX5_odds_38 ⟨(Nat.le_of_ble_eq_true rfl), (Nat.le_of_ble_eq_true rfl)⟩ ⟨(Nat.le_of_ble_eq_true rfl), (Nat.le_of_ble_eq_true rfl)⟩) (fun _ => rfl) (fun r_38 _ h_38 => ?_)
        obtain rfl := h_38
        refine g_iloadn C dX5_odds_41 2 rfl rfl ?_
        refine g_topci (nI k) (ek) ?_
        refine g_call0l C (rd_S C (k_X5_product l D q tt k (by first | assumption | omega)) gX5_odds_X5_product rfl rfl rfl 1 ok_X5_product (rest := [.long (lN (fcN n))]) rfl rfl (Nat.le_of_ble_eq_true rfl) dX5_odds_42 ⟨(Nat.le_of_ble_eq_true rfl), (Nat.le_of_ble_eq_true rfl)⟩ ⟨(Nat.le_of_ble_eq_true rfl), (Nat.le_of_ble_eq_true rfl)⟩) (fun _ => rfl) (fun r_42 _ h_42 => ?_)
        obtain rfl := h_42
        refine g_ldiv C dX5_odds_45 (lN_ne f4 (by omega)) ?_
        refine g_topcl (lN (fcN n / fcN k)) (pk_lDiv (by omega) (by omega) (by omega)) ?_
        refine g_iloadn C dX5_odds_46 1 rfl rfl ?_
        refine g_topci (nI n) (en) ?_
        refine g_iloadn C dX5_odds_47 2 rfl rfl ?_
        refine g_topci (nI k) (ek) ?_
        refine g_isub C dX5_odds_48 ?_
        refine g_topci (nI (n - k)) (pk_sub hk) ?_
        refine g_call0l C (rd_S C (k_X5_product l D q tt (n - k) (by omega)) gX5_odds_X5_product rfl rfl rfl 1 ok_X5_product (rest := [.long (lN (fcN n / fcN k))]) rfl rfl (Nat.le_of_ble_eq_true rfl) dX5_odds_49 ⟨(Nat.le_of_ble_eq_true rfl), (Nat.le_of_ble_eq_true rfl)⟩ ⟨(Nat.le_of_ble_eq_true rfl), (Nat.le_of_ble_eq_true rfl)⟩) (fun _ => rfl) (fun r_49 _ h_49 => ?_)
        obtain rfl := h_49
        refine g_ldiv C dX5_odds_52 (lN_ne f5 (by omega)) ?_
        refine g_topcl (lN (abN w k (biN n k k) 0)) ((pk_lDiv (by omega) (by omega) (by omega)).trans (congrArg lN (bi_fc n (by omega) k (by omega)))) ?_
        refine g_lstore C [(4, .long (lN (abN w k (biN n k k) 0))), (0, .ref (a 0)), (1, .int x), (2, .int y), (3, .int z)] dX5_odds_53 (by decide) rfl ?_
        refine g_lconst C 1 dX5_odds_55 (by decide) ?_
        refine g_lstore C [(6, .long 1), (4, .long (lN (abN w k (biN n k k) 0))), (0, .ref (a 0)), (1, .int x), (2, .int y), (3, .int z)] dX5_odds_56 (by decide) rfl ?_
        refine g_iconst C 0 dX5_odds_58 (by decide) ?_
        refine g_istore C [(8, .int 0), (6, .long 1), (4, .long (lN (abN w k (biN n k k) 0))), (0, .ref (a 0)), (1, .int x), (2, .int y), (3, .int z)] dX5_odds_59 (by decide) rfl ?_
        have J_61 : ∀ (fu : Nat) (i : Nat), n - i < fu → (i ≤ n) → G p l e ({ frames := 1, cells := 0, slots := 0, locals := 30 } : Room) s m args below meth c 9 D A (MQ below (va_Ql (fun (r : Int64) (u : Unit) => r = R_odds (m_s v) x y z) (Bw D A (fun (_ : Unit) => (mw q a v))) A) args s 0 0 A) 61 [(0, .ref (a 0)), (1, .int x), (2, .int y), (3, .int z), (4, .long (lN (abN w k (biN n k k) i))), (6, .long (lN (100 ^ i))), (8, .int (nI i))] [] (mw q a v) 0 0 := by
          intro fu
          induction fu with
          | zero =>
            intro i hfu
            exact absurd hfu (Nat.not_lt_zero _)
          | succ fu ih =>
            intro i hfu hi
            refine g_iload C dX5_odds_61 6 rfl ?_
            refine g_iloadn C dX5_odds_63 1 rfl rfl ?_
            refine g_topci (nI n) (en) ?_
            refine g_icmpN_ge C 114 (i) (n) dX5_odds_64 rfl (by omega) (by omega) (fun c_64 => ?_) (fun c_64 => ?_)
            · refine g_lload C dX5_odds_114 4 rfl ?_
              refine g_lload C dX5_odds_116 5 rfl ?_
              refine g_iloadn C dX5_odds_118 3 rfl rfl ?_
              refine g_call0l C (rd_S C (k_X5_partOf l D q tt (abN w k (biN n k k) i) (100 ^ i) z (ab_lt (by omega) (hbk k (by omega)) (by omega)) (Nat.lt_of_le_of_lt (p100 i (by omega)) (by decide)) (Nat.pow_pos (by decide))) gX5_odds_X5_partOf rfl rfl rfl 3 ok_X5_partOf (rest := []) rfl rfl (Nat.le_of_ble_eq_true rfl) dX5_odds_119 ⟨(Nat.le_of_ble_eq_true rfl), (Nat.le_of_ble_eq_true rfl)⟩ ⟨(Nat.le_of_ble_eq_true rfl), (Nat.le_of_ble_eq_true rfl)⟩) (fun _ => rfl) (fun r_119 _ h_119 => ?_)
              obtain rfl := h_119
              exact g_lret C () hr dX5_odds_122 (Nat.le_of_ble_eq_true rfl) (Nat.le_of_ble_eq_true rfl) rfl (by unfold R_odds; rw [if_pos ⟨c_9, c_20, c_30⟩, en2, ek2, show ((m_s v) 6).toNatClampNeg = w from (by rw [ew]; exact nI_clamp (by omega)), show i = n by omega])
            · refine g_lload C dX5_odds_67 4 rfl ?_
              refine g_iload C dX5_odds_69 6 rfl ?_
              refine g_iloadn C dX5_odds_71 2 rfl rfl ?_
              refine g_topci (nI k) (ek) ?_
              refine g_icmpN_ge C 86 (i) (k) dX5_odds_72 rfl (by omega) (by omega) (fun c_72 => ?_) (fun c_72 => ?_)
              · refine g_bipush C 100 dX5_odds_86 (by decide) ?_
                refine g_aloadn C dX5_odds_88 0 rfl rfl ?_
                refine g_get C fx5 w_2 0 0 (v := .ref (a 1)) rfl (by decide) w_3 rfl dX5_odds_89 ?_
                refine g_bipush C 6 dX5_odds_92 (by decide) ?_
                refine g_iald C 1 (6) (f := (m_s v)) rfl rfl (by omega) (by decide) dX5_odds_94 ?_
                refine g_topci (nI w) (ew) ?_
                refine g_isub C dX5_odds_95 ?_
                refine g_topci (nI (100 - w)) (n100 (by omega)) ?_
                refine g_i2l C dX5_odds_96 ?_
                refine g_topcl (lN (100 - w)) (nI_l (by omega)) ?_
                refine g_lmul C dX5_odds_97 ?_
                refine g_topcl (lN (abN w k (biN n k k) (i + 1))) (ab_2 (by omega)) ?_
                refine g_lstore C [(4, .long (lN (abN w k (biN n k k) (i + 1)))), (0, .ref (a 0)), (1, .int x), (2, .int y), (3, .int z), (6, .long (lN (100 ^ i))), (8, .int (nI i))] dX5_odds_98 (by decide) rfl ?_
                refine g_lload C dX5_odds_100 5 rfl ?_
                refine g_ldc2 C (100) dX5_odds_102 w_4 ?_
                refine g_lmul C dX5_odds_105 ?_
                refine g_topcl (lN (100 ^ (i + 1))) (lN_mul (100 ^ i) 100) ?_
                refine g_lstore C [(6, .long (lN (100 ^ (i + 1)))), (4, .long (lN (abN w k (biN n k k) (i + 1)))), (0, .ref (a 0)), (1, .int x), (2, .int y), (3, .int z), (8, .int (nI i))] dX5_odds_106 (by decide) rfl ?_
                refine g_iinc C (nI (i + 1)) [(8, .int (nI (i + 1))), (6, .long (lN (100 ^ (i + 1)))), (4, .long (lN (abN w k (biN n k k) (i + 1)))), (0, .ref (a 0)), (1, .int x), (2, .int y), (3, .int z)] dX5_odds_108 6 rfl (nI_add i 1) (by decide) rfl ?_
                refine g_goto C 61 dX5_odds_111 rfl ?_
                refine g_sub [3, 4, 5, 6, 2, 1, 0] (lv' := [(0, .ref (a 0)), (1, .int x), (2, .int y), (3, .int z), (4, .long (lN (abN w k (biN n k k) (i + 1)))), (6, .long (lN (100 ^ (i + 1)))), (8, .int (nI (i + 1)))]) rfl ?_
                exact ih ((i + 1)) (by omega) (by first | assumption | omega)
              · refine g_aloadn C dX5_odds_75 0 rfl rfl ?_
                refine g_get C fx5 w_2 0 0 (v := .ref (a 1)) rfl (by decide) w_3 rfl dX5_odds_76 ?_
                refine g_bipush C 6 dX5_odds_79 (by decide) ?_
                refine g_iald C 1 (6) (f := (m_s v)) rfl rfl (by omega) (by decide) dX5_odds_81 ?_
                refine g_topci (nI w) (ew) ?_
                refine g_i2l C dX5_odds_82 ?_
                refine g_topcl (lN w) (nI_l (by omega)) ?_
                refine g_goto C 97 dX5_odds_83 rfl ?_
                refine g_lmul C dX5_odds_97 ?_
                refine g_topcl (lN (abN w k (biN n k k) (i + 1))) (ab_1 (by omega)) ?_
                refine g_lstore C [(4, .long (lN (abN w k (biN n k k) (i + 1)))), (0, .ref (a 0)), (1, .int x), (2, .int y), (3, .int z), (6, .long (lN (100 ^ i))), (8, .int (nI i))] dX5_odds_98 (by decide) rfl ?_
                refine g_lload C dX5_odds_100 5 rfl ?_
                refine g_ldc2 C (100) dX5_odds_102 w_4 ?_
                refine g_lmul C dX5_odds_105 ?_
                refine g_topcl (lN (100 ^ (i + 1))) (lN_mul (100 ^ i) 100) ?_
                refine g_lstore C [(6, .long (lN (100 ^ (i + 1)))), (4, .long (lN (abN w k (biN n k k) (i + 1)))), (0, .ref (a 0)), (1, .int x), (2, .int y), (3, .int z), (8, .int (nI i))] dX5_odds_106 (by decide) rfl ?_
                refine g_iinc C (nI (i + 1)) [(8, .int (nI (i + 1))), (6, .long (lN (100 ^ (i + 1)))), (4, .long (lN (abN w k (biN n k k) (i + 1)))), (0, .ref (a 0)), (1, .int x), (2, .int y), (3, .int z)] dX5_odds_108 6 rfl (nI_add i 1) (by decide) rfl ?_
                refine g_goto C 61 dX5_odds_111 rfl ?_
                refine g_sub [3, 4, 5, 6, 2, 1, 0] (lv' := [(0, .ref (a 0)), (1, .int x), (2, .int y), (3, .int z), (4, .long (lN (abN w k (biN n k k) (i + 1)))), (6, .long (lN (100 ^ (i + 1)))), (8, .int (nI (i + 1)))]) rfl ?_
                exact ih ((i + 1)) (by omega) (by first | assumption | omega)
        refine g_sub [3, 4, 5, 6, 2, 1, 0] (lv' := [(0, .ref (a 0)), (1, .int x), (2, .int y), (3, .int z), (4, .long (lN (abN w k (biN n k k) 0))), (6, .long 1), (8, .int 0)]) rfl ?_
        exact J_61 _ (0) (Nat.lt_succ_self _) (by first | assumption | omega)
      · refine g_ldc2 C (-1) dX5_odds_33 w_1 ?_
        exact g_lret C () hr dX5_odds_36 (Nat.le_of_ble_eq_true rfl) (Nat.le_of_ble_eq_true rfl) rfl (by unfold R_odds; rw [if_neg (fun q => by first | exact c_9 q.1 | exact c_20 q.2.1 | exact c_30 q.2.2)])

set_option maxRecDepth 100000 in
set_option maxHeartbeats 4000000 in
theorem k_X5_hope (l : Launch) (D : va_G) (q : Nat → ClassId) (tt : Nat → Nat) (a : Nat → Nat) (v : MC) (N : Nat) (x : Int32) (y : Int32) (hG : Gd (m_s v) N) : ML l D q tt yX5_hope wsX5_hope ({ frames := 1, cells := 0, slots := 0, locals := 30 } : Room) [.ref (a 0), .int x, .int y] (mw q a v) (fun (r : Int64) (u : Unit) => r = R_hope (m_s v) x y) (fun (_ : Unit) => (mw q a v)) 0 0 := by
  refine ML.of RX5 [(0, .ref (a 0)), (1, .int x), (2, .int y)] (by decide) rfl rfl (Nat.le_of_ble_eq_true rfl) rfl ?_
  intro p e s m args below meth c A C hr hnm
  have w_0 : Cond.constantLong RX5 154 (99) ∈ wsX5_hope := by decide +kernel
  have w_1 : Cond.constantLong RX5 255 (-1) ∈ wsX5_hope := by decide +kernel
  have w_2 : ∀ w ∈ u_ws RX5 TX5 29, w ∈ wsX5_hope := by decide +kernel
  have w_3 : Cond.fieldLink RX5 7 (TX5 0).1 (TX5 0).2.1 (TX5 0).2.2.1 ∈ wsX5_hope := by decide +kernel
  have w_4 : Cond.constantLong RX5 261 (100) ∈ wsX5_hope := by decide +kernel
  have h8 := hG.le
  refine g_iloadn C dX5_hope_0 1 rfl rfl ?_
  refine g_i2l C dX5_hope_1 ?_
  refine g_lconst C 0 dX5_hope_2 (by decide) ?_
  refine g_ldc2 C (99) dX5_hope_3 w_0 ?_
  refine g_call0i C (rd_S C (k_isIn32 l D q tt (x) 0 (99) 0 (99) (by first | rfl | decide) (by first | rfl | decide)) gX5_hope_X5_isIn rfl rfl rfl 3 ok_X5_isIn (rest := []) rfl rfl (Nat.le_of_ble_eq_true rfl) dX5_hope_6 ⟨(Nat.le_of_ble_eq_true rfl), (Nat.le_of_ble_eq_true rfl)⟩ ⟨(Nat.le_of_ble_eq_true rfl), (Nat.le_of_ble_eq_true rfl)⟩) (fun _ => rfl) (fun r_6 _ h_6 => ?_)
  obtain rfl := h_6
  refine g_ifeqE C 43 dX5_hope_9 rfl rfl (fun c_9 => ?_) (fun c_9 => ?_)
  · refine g_ldc2 C (-1) dX5_hope_43 w_1 ?_
    exact g_lret C () hr dX5_hope_46 (Nat.le_of_ble_eq_true rfl) (Nat.le_of_ble_eq_true rfl) rfl (by unfold R_hope; rw [if_neg (fun q => by first | exact c_9 q.1 | exact c_19 q.2)])
  · refine g_iloadn C dX5_hope_12 2 rfl rfl ?_
    refine g_i2l C dX5_hope_13 ?_
    refine g_lconst C 0 dX5_hope_14 (by decide) ?_
    refine g_lconst C 1 dX5_hope_15 (by decide) ?_
    refine g_call0i C (rd_S C (k_isIn32 l D q tt (y) 0 1 0 1 (by first | rfl | decide) (by first | rfl | decide)) gX5_hope_X5_isIn rfl rfl rfl 3 ok_X5_isIn (rest := []) rfl rfl (Nat.le_of_ble_eq_true rfl) dX5_hope_16 ⟨(Nat.le_of_ble_eq_true rfl), (Nat.le_of_ble_eq_true rfl)⟩ ⟨(Nat.le_of_ble_eq_true rfl), (Nat.le_of_ble_eq_true rfl)⟩) (fun _ => rfl) (fun r_16 _ h_16 => ?_)
    obtain rfl := h_16
    refine g_ifeqE C 43 dX5_hope_19 rfl rfl (fun c_19 => ?_) (fun c_19 => ?_)
    · refine g_ldc2 C (-1) dX5_hope_43 w_1 ?_
      exact g_lret C () hr dX5_hope_46 (Nat.le_of_ble_eq_true rfl) (Nat.le_of_ble_eq_true rfl) rfl (by unfold R_hope; rw [if_neg (fun q => by first | exact c_9 q.1 | exact c_19 q.2)])
    · obtain ⟨n, hn, en, en2⟩ := ix_le (n := 99) (by omega) c_9
      obtain ⟨w, hw_, ew⟩ := hG.2.2.2.2.1
      have hnw : n * w ≤ 99 * 99 := Nat.mul_le_mul hn hw_
      refine g_iloadn C dX5_hope_22 1 rfl rfl ?_
      refine g_topci (nI n) (en) ?_
      refine g_i2l C dX5_hope_23 ?_
      refine g_topcl (lN n) (nI_l (by omega)) ?_
      refine g_aloadn C dX5_hope_24 0 rfl rfl ?_
      refine g_get C fx5 w_2 0 0 (v := .ref (a 1)) rfl (by decide) w_3 rfl dX5_hope_25 ?_
      refine g_bipush C 6 dX5_hope_28 (by decide) ?_
      refine g_iald C 1 (6) (f := (m_s v)) rfl rfl (by omega) (by decide) dX5_hope_30 ?_
      refine g_topci (nI w) (ew) ?_
      refine g_i2l C dX5_hope_31 ?_
      refine g_topcl (lN w) (nI_l (by omega)) ?_
      refine g_lmul C dX5_hope_32 ?_
      refine g_topcl (lN (n * w)) (lN_mul _ _) ?_
      refine g_ldc2 C (100) dX5_hope_33 w_4 ?_
      refine g_topcl (lN 100) (rfl) ?_
      refine g_iloadn C dX5_hope_36 2 rfl rfl ?_
      refine g_call0l C (rd_S C (k_X5_partOf l D q tt (n * w) 100 y (by omega) (by decide) (by decide)) gX5_hope_X5_partOf rfl rfl rfl 3 ok_X5_partOf (rest := []) rfl rfl (Nat.le_of_ble_eq_true rfl) dX5_hope_37 ⟨(Nat.le_of_ble_eq_true rfl), (Nat.le_of_ble_eq_true rfl)⟩ ⟨(Nat.le_of_ble_eq_true rfl), (Nat.le_of_ble_eq_true rfl)⟩) (fun _ => rfl) (fun r_37 _ h_37 => ?_)
      obtain rfl := h_37
      refine g_goto C 46 dX5_hope_40 rfl ?_
      exact g_lret C () hr dX5_hope_46 (Nat.le_of_ble_eq_true rfl) (Nat.le_of_ble_eq_true rfl) rfl (by unfold R_hope; rw [if_pos ⟨c_9, c_19⟩, en2, show ((m_s v) 6).toNatClampNeg = w from (by rw [ew]; exact nI_clamp (by omega))])

