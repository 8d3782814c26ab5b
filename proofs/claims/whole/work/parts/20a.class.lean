set_option maxRecDepth 100000 in
set_option maxHeartbeats 4000000 in
theorem k_X4_commonDivisor (l : Launch) (D : va_G) (q : Nat → ClassId) (tt : Nat → Nat) (x : Nat) (y : Nat) (hx : x < 2 ^ 63) (hy : y < 2 ^ 63) : ML l D q tt yX4_commonDivisor wsX4_commonDivisor ({ frames := 0, cells := 0, slots := 0, locals := 0 } : Room) [.long (lN x), .long (lN y)] [] (fun (r : Int64) (u : Unit) => r = (lN (Nat.gcd x y))) (fun (_ : Unit) => []) 0 0 := by
  refine ML.of RX4 [(0, .long (lN x)), (2, .long (lN y))] (by decide) rfl rfl (Nat.le_of_ble_eq_true rfl) rfl ?_
  intro p e s m args below meth c A C hr hnm
  refine g_lloadn C dX4_commonDivisor_0 0 rfl rfl ?_
  refine g_lstore C [(4, .long (lN x)), (0, .long (lN x)), (2, .long (lN y))] dX4_commonDivisor_1 (by decide) rfl ?_
  refine g_lloadn C dX4_commonDivisor_3 2 rfl rfl ?_
  refine g_lstore C [(6, .long (lN y)), (4, .long (lN x)), (0, .long (lN x)), (2, .long (lN y))] dX4_commonDivisor_4 (by decide) rfl ?_
  refine g_iconst C 0 dX4_commonDivisor_6 (by decide) ?_
  refine g_istore C [(8, .int 0), (6, .long (lN y)), (4, .long (lN x)), (0, .long (lN x)), (2, .long (lN y))] dX4_commonDivisor_7 (by decide) rfl ?_
  have J_9 : ∀ (fu : Nat) (x1 : Nat) (y1 : Nat) (i : Nat), 100 - i < fu → (x1 < 2 ^ 63) → (y1 < 2 ^ 63) → (i ≤ 100) → (Nat.gcd x1 y1 = (Nat.gcd x y)) → (dnE (100 - i) x1 y1) → G p l e ({ frames := 0, cells := 0, slots := 0, locals := 0 } : Room) s m args below meth c 11 D A (MQ below (va_Ql (fun (r : Int64) (u : Unit) => r = (lN (Nat.gcd x y))) (Bw D A (fun (_ : Unit) => [])) A) args s 0 0 A) 9 [(0, .long (lN x)), (2, .long (lN y)), (4, .long (lN x1)), (6, .long (lN y1)), (8, .int (nI i))] [] [] 0 0 := by
    intro fu
    induction fu with
    | zero =>
      intro x1 y1 i hfu
      exact absurd hfu (Nat.not_lt_zero _)
    | succ fu ih =>
      intro x1 y1 i hfu hx1 hy1 hi hg hd
      refine g_iload C dX4_commonDivisor_9 4 rfl ?_
      refine g_bipush C 100 dX4_commonDivisor_11 (by decide) ?_
      refine g_icmpN_ge C 44 (i) (100) dX4_commonDivisor_13 rfl (by omega) (by omega) (fun c_13 => ?_) (fun c_13 => ?_)
      · refine g_lload C dX4_commonDivisor_44 2 rfl ?_
        exact g_lret C () hr dX4_commonDivisor_46 (Nat.le_of_ble_eq_true rfl) (Nat.le_of_ble_eq_true rfl) rfl (by rw [← hg, show y1 = 0 from (by first | exact dn_end hd (by omega) | omega), Nat.gcd_zero_right])
      · refine g_lload C dX4_commonDivisor_16 3 rfl ?_
        refine g_lconst C 0 dX4_commonDivisor_18 (by decide) ?_
        refine g_lcmp C dX4_commonDivisor_19 ?_
        refine g_topci (bI (¬ y1 = 0)) (lg_b0 hy1) ?_
        refine g_ifeqE C 44 dX4_commonDivisor_20 rfl rfl (fun c_20 => ?_) (fun c_20 => ?_)
        · refine g_lload C dX4_commonDivisor_44 2 rfl ?_
          exact g_lret C () hr dX4_commonDivisor_46 (Nat.le_of_ble_eq_true rfl) (Nat.le_of_ble_eq_true rfl) rfl (by rw [← hg, show y1 = 0 from (by first | exact dn_end hd (by omega) | omega), Nat.gcd_zero_right])
        · refine g_lload C dX4_commonDivisor_23 2 rfl ?_
          refine g_lload C dX4_commonDivisor_25 3 rfl ?_
          refine g_lrem C dX4_commonDivisor_27 (lN_ne c_20 hy1) ?_
          refine g_topcl (lN (x1 % y1)) (pk_lRem hx1 (by omega) hy1) ?_
          refine g_lstore C [(9, .long (lN (x1 % y1))), (0, .long (lN x)), (2, .long (lN y)), (4, .long (lN x1)), (6, .long (lN y1)), (8, .int (nI i))] dX4_commonDivisor_28 (by decide) rfl ?_
          refine g_lload C dX4_commonDivisor_30 4 rfl ?_
          refine g_lstore C [(4, .long (lN y1)), (9, .long (lN (x1 % y1))), (0, .long (lN x)), (2, .long (lN y)), (6, .long (lN y1)), (8, .int (nI i))] dX4_commonDivisor_32 (by decide) rfl ?_
          refine g_lload C dX4_commonDivisor_34 1 rfl ?_
          refine g_lstore C [(6, .long (lN (x1 % y1))), (4, .long (lN y1)), (9, .long (lN (x1 % y1))), (0, .long (lN x)), (2, .long (lN y)), (8, .int (nI i))] dX4_commonDivisor_36 (by decide) rfl ?_
          refine g_iinc C (nI (i + 1)) [(8, .int (nI (i + 1))), (6, .long (lN (x1 % y1))), (4, .long (lN y1)), (9, .long (lN (x1 % y1))), (0, .long (lN x)), (2, .long (lN y))] dX4_commonDivisor_38 5 rfl (nI_add i 1) (by decide) rfl ?_
          refine g_goto C 9 dX4_commonDivisor_41 rfl ?_
          refine g_sub [4, 5, 2, 1, 0] (lv' := [(0, .long (lN x)), (2, .long (lN y)), (4, .long (lN y1)), (6, .long (lN (x1 % y1))), (8, .int (nI (i + 1)))]) rfl ?_
          exact ih (y1) ((x1 % y1)) ((i + 1)) (by omega) hy1 (Nat.lt_of_le_of_lt (Nat.mod_le _ _) hx1) (by first | assumption | omega) ((gcd_st x1 y1).trans hg) (by have hd_ := dn_next hd c_20 (by omega); rw [Nat.sub_sub] at hd_; exact hd_)
  refine g_sub [3, 4, 2, 1, 0] (lv' := [(0, .long (lN x)), (2, .long (lN y)), (4, .long (lN x)), (6, .long (lN y)), (8, .int 0)]) rfl ?_
  exact J_9 _ (x) (y) (0) (Nat.lt_succ_self _) hx hy (by first | assumption | omega) rfl (dn_all hy)

set_option maxRecDepth 100000 in
set_option maxHeartbeats 4000000 in
theorem k_X4_partOf (l : Launch) (D : va_G) (q : Nat → ClassId) (tt : Nat → Nat) (x : Nat) (y : Nat) (z : Int32) (hx : x < 2 ^ 63) (hy : y < 2 ^ 63) (h0 : 0 < y) : ML l D q tt yX4_partOf wsX4_partOf ({ frames := 1, cells := 0, slots := 0, locals := 30 } : Room) [.long (lN x), .long (lN y), .int z] [] (fun (r : Int64) (u : Unit) => r = (R_part x y z)) (fun (_ : Unit) => []) 0 0 := by
  refine ML.of RX4 [(0, .long (lN x)), (2, .long (lN y)), (4, .int z)] (by decide) rfl rfl (Nat.le_of_ble_eq_true rfl) rfl ?_
  intro p e s m args below meth c A C hr hnm
  have hgp : 0 < Nat.gcd x y := Nat.gcd_pos_of_pos_right x h0
  have hgl : Nat.gcd x y < 2 ^ 63 := Nat.lt_of_le_of_lt (Nat.gcd_le_right x h0) hy
  refine g_lloadn C dX4_partOf_0 0 rfl rfl ?_
  refine g_lloadn C dX4_partOf_1 1 rfl rfl ?_
  refine g_call0l C (rd_S C (k_X4_commonDivisor l D q tt x y (by first | assumption | omega) (by first | assumption | omega)) gX4_partOf_X4_commonDivisor rfl rfl rfl 2 ok_X4_commonDivisor (rest := []) rfl rfl (Nat.le_of_ble_eq_true rfl) dX4_partOf_2 ⟨(Nat.le_of_ble_eq_true rfl), (Nat.le_of_ble_eq_true rfl)⟩ ⟨(Nat.le_of_ble_eq_true rfl), (Nat.le_of_ble_eq_true rfl)⟩) (fun _ => rfl) (fun r_2 _ h_2 => ?_)
  obtain rfl := h_2
  refine g_lstore C [(5, .long (lN (Nat.gcd x y))), (0, .long (lN x)), (2, .long (lN y)), (4, .int z)] dX4_partOf_5 (by decide) rfl ?_
  refine g_lload C dX4_partOf_7 0 rfl ?_
  refine g_lconst C 0 dX4_partOf_9 (by decide) ?_
  refine g_lcmp C dX4_partOf_10 ?_
  refine g_topci (bI (¬ (Nat.gcd x y) = 0)) (lg_b0 hgl) ?_
  refine g_ifneE C 16 dX4_partOf_11 rfl rfl (fun c_11 => ?_) (fun c_11 => ?_)
  · refine g_iload C dX4_partOf_16 3 rfl ?_
    refine g_if_ne C 28 dX4_partOf_18 rfl (fun c_18 => ?_) (fun c_18 => ?_)
    · refine g_lloadn C dX4_partOf_28 2 rfl rfl ?_
      refine g_lload C dX4_partOf_29 0 rfl ?_
      refine g_ldiv C dX4_partOf_31 (lN_ne (by omega) hgl) ?_
      refine g_topcl (lN (y / (Nat.gcd x y))) (pk_lDiv hy hgp hgl) ?_
      exact g_lret C () hr dX4_partOf_32 (Nat.le_of_ble_eq_true rfl) (Nat.le_of_ble_eq_true rfl) rfl (by unfold R_part; first | rw [if_pos c_18] | rw [if_neg c_18])
    · refine g_lloadn C dX4_partOf_21 1 rfl rfl ?_
      refine g_lload C dX4_partOf_22 0 rfl ?_
      refine g_ldiv C dX4_partOf_24 (lN_ne (by omega) hgl) ?_
      refine g_topcl (lN (x / (Nat.gcd x y))) (pk_lDiv hx hgp hgl) ?_
      refine g_goto C 32 dX4_partOf_25 rfl ?_
      exact g_lret C () hr dX4_partOf_32 (Nat.le_of_ble_eq_true rfl) (Nat.le_of_ble_eq_true rfl) rfl (by unfold R_part; first | rw [if_pos c_18] | rw [if_neg c_18])
  · exfalso
    omega

set_option maxRecDepth 100000 in
set_option maxHeartbeats 4000000 in
theorem k_X4_odds (l : Launch) (D : va_G) (q : Nat → ClassId) (tt : Nat → Nat) (B : Nat → Nat → Nat) (o : OC) (h1 : HC) (h2 : HC) (h3 : HC) (t : TC) (g : GC) (S : Nat → Int32) (N : Nat) (x : Int32) (y : Int32) (z : Int32) (hG : Gd S N) (rS : HR S N h1) : ML l D q tt yX4_odds wsX4_odds ({ frames := 2, cells := 0, slots := 0, locals := 56 } : Room) [.ref ((B 0) 0), .int x, .int y, .int z] (ow q B o ++ (hw q (B 1) h1 ++ (hw q (B 2) h2 ++ (hw q (B 3) h3 ++ (tw q (B 4) t ++ (sw q (B 5) g)))))) (fun (r : Int64) (u : Unit) => r = R_odds S x y z) (fun (_ : Unit) => (ow q B o ++ (hw q (B 1) h1 ++ (hw q (B 2) h2 ++ (hw q (B 3) h3 ++ (tw q (B 4) t ++ (sw q (B 5) g))))))) 0 0 := by
  refine ML.of RX4 [(0, .ref ((B 0) 0)), (1, .int x), (2, .int y), (3, .int z)] (by decide) rfl rfl (Nat.le_of_ble_eq_true rfl) rfl ?_
  intro p e s m args below meth c A C hr hnm
  have w_0 : Cond.constantLong RX4 217 (-1) ∈ wsX4_odds := by decide +kernel
  have w_1 : ∀ w ∈ u_ws RX4 TX4 11, w ∈ wsX4_odds := by decide +kernel
  have w_2 : Cond.fieldLink RX4 10 (TX4 0).1 (TX4 0).2.1 (TX4 0).2.2.1 ∈ wsX4_odds := by decide +kernel
  have w_3 : ∀ w ∈ u_ws RX0 TX0 11, w ∈ wsX4_odds := by decide +kernel
  have w_4 : Cond.fieldLink RX4 98 (TX0 0).1 (TX0 0).2.1 (TX0 0).2.2.1 ∈ wsX4_odds := by decide +kernel
  have w_5 : Cond.constantLong RX4 219 (100) ∈ wsX4_odds := by decide +kernel
  have h8 := hG.le
  have hS0 := hG.n
  refine g_iloadn C dX4_odds_0 1 rfl rfl ?_
  refine g_iconst C 0 dX4_odds_1 (by decide) ?_
  refine g_bipush C 8 dX4_odds_2 (by decide) ?_
  refine g_call0i C (rd_S C (k_X4_within l D q tt x 0 8 ) gX4_odds_X4_within rfl rfl rfl 3 ok_X4_within (rest := []) rfl rfl (Nat.le_of_ble_eq_true rfl) dX4_odds_4 ⟨(Nat.le_of_ble_eq_true rfl), (Nat.le_of_ble_eq_true rfl)⟩ ⟨(Nat.le_of_ble_eq_true rfl), (Nat.le_of_ble_eq_true rfl)⟩) (fun _ => rfl) (fun r_4 _ h_4 => ?_)
  obtain rfl := h_4
  refine g_ifeqE C 28 dX4_odds_7 rfl rfl (fun c_7 => ?_) (fun c_7 => ?_)
  · refine g_ldc2 C (-1) dX4_odds_28 w_0 ?_
    exact g_lret C () hr dX4_odds_31 (Nat.le_of_ble_eq_true rfl) (Nat.le_of_ble_eq_true rfl) rfl (by unfold R_odds; rw [if_neg (fun q => by first | exact c_7 q.1 | exact c_16 q.2.1 | exact c_25 q.2.2)])
  · refine g_iloadn C dX4_odds_10 2 rfl rfl ?_
    refine g_iconst C 0 dX4_odds_11 (by decide) ?_
    refine g_iloadn C dX4_odds_12 1 rfl rfl ?_
    refine g_call0i C (rd_S C (k_X4_within l D q tt y 0 x ) gX4_odds_X4_within rfl rfl rfl 3 ok_X4_within (rest := []) rfl rfl (Nat.le_of_ble_eq_true rfl) dX4_odds_13 ⟨(Nat.le_of_ble_eq_true rfl), (Nat.le_of_ble_eq_true rfl)⟩ ⟨(Nat.le_of_ble_eq_true rfl), (Nat.le_of_ble_eq_true rfl)⟩) (fun _ => rfl) (fun r_13 _ h_13 => ?_)
    obtain rfl := h_13
    refine g_ifeqE C 28 dX4_odds_16 rfl rfl (fun c_16 => ?_) (fun c_16 => ?_)
    · refine g_ldc2 C (-1) dX4_odds_28 w_0 ?_
      exact g_lret C () hr dX4_odds_31 (Nat.le_of_ble_eq_true rfl) (Nat.le_of_ble_eq_true rfl) rfl (by unfold R_odds; rw [if_neg (fun q => by first | exact c_7 q.1 | exact c_16 q.2.1 | exact c_25 q.2.2)])
    · refine g_iloadn C dX4_odds_19 3 rfl rfl ?_
      refine g_iconst C 0 dX4_odds_20 (by decide) ?_
      refine g_iconst C 1 dX4_odds_21 (by decide) ?_
      refine g_call0i C (rd_S C (k_X4_within l D q tt z 0 1 ) gX4_odds_X4_within rfl rfl rfl 3 ok_X4_within (rest := []) rfl rfl (Nat.le_of_ble_eq_true rfl) dX4_odds_22 ⟨(Nat.le_of_ble_eq_true rfl), (Nat.le_of_ble_eq_true rfl)⟩ ⟨(Nat.le_of_ble_eq_true rfl), (Nat.le_of_ble_eq_true rfl)⟩) (fun _ => rfl) (fun r_22 _ h_22 => ?_)
      obtain rfl := h_22
      refine g_ifneE C 32 dX4_odds_25 rfl rfl (fun c_25 => ?_) (fun c_25 => ?_)
      · obtain ⟨n, hn, en, en2⟩ := ix_le (n := 8) (by omega) c_7
        obtain ⟨k, hk, ek, ek2⟩ := ix_le (x := y) (n := n) (by omega) ⟨c_16.1, by rw [← en]; exact c_16.2⟩
        obtain ⟨w, hw_, ew⟩ := hG.2.2.2.2.1
        have hbk := bi_le n (by omega) k (by omega)
        refine g_lconst C 1 dX4_odds_32 (by decide) ?_
        refine g_lstore C [(4, .long 1), (0, .ref ((B 0) 0)), (1, .int x), (2, .int y), (3, .int z)] dX4_odds_33 (by decide) rfl ?_
        refine g_lconst C 1 dX4_odds_35 (by decide) ?_
        refine g_lstore C [(6, .long 1), (4, .long 1), (0, .ref ((B 0) 0)), (1, .int x), (2, .int y), (3, .int z)] dX4_odds_36 (by decide) rfl ?_
        refine g_iconst C 1 dX4_odds_38 (by decide) ?_
        refine g_istore C [(8, .int 1), (6, .long 1), (4, .long 1), (0, .ref ((B 0) 0)), (1, .int x), (2, .int y), (3, .int z)] dX4_odds_39 (by decide) rfl ?_
        have J_41 : ∀ (fu : Nat) (u : Nat), k - u < fu → (u ≤ k) → G p l e ({ frames := 2, cells := 0, slots := 0, locals := 56 } : Room) s m args below meth c 9 D A (MQ below (va_Ql (fun (r : Int64) (u : Unit) => r = R_odds S x y z) (Bw D A (fun (_ : Unit) => (ow q B o ++ (hw q (B 1) h1 ++ (hw q (B 2) h2 ++ (hw q (B 3) h3 ++ (tw q (B 4) t ++ (sw q (B 5) g)))))))) A) args s 0 0 A) 41 [(0, .ref ((B 0) 0)), (1, .int x), (2, .int y), (3, .int z), (4, .long (lN (biN n k u))), (6, .long 1), (8, .int (nI (u + 1)))] [] (ow q B o ++ (hw q (B 1) h1 ++ (hw q (B 2) h2 ++ (hw q (B 3) h3 ++ (tw q (B 4) t ++ (sw q (B 5) g)))))) 0 0 := by
          intro fu
          induction fu with
          | zero =>
            intro u hfu
            exact absurd hfu (Nat.not_lt_zero _)
          | succ fu ih =>
            intro u hfu hu
            refine g_iload C dX4_odds_41 6 rfl ?_
            refine g_iloadn C dX4_odds_43 2 rfl rfl ?_
            refine g_topci (nI k) (ek) ?_
            refine g_icmpN_gt C 69 ((u + 1)) (k) dX4_odds_44 rfl (by omega) (by omega) (fun c_44 => ?_) (fun c_44 => ?_)
            · refine g_lvc 4 (lv' := [(0, .ref ((B 0) 0)), (1, .int x), (2, .int y), (3, .int z), (4, .long (lN (abN w k (biN n k k) 0))), (6, .long 1), (8, .int (nI (u + 1)))]) (by rw [show (lN (biN n k u)) = (lN (abN w k (biN n k k) 0)) from by rw [show u = k by omega]; rfl]) ?_
              refine g_iconst C 0 dX4_odds_69 (by decide) ?_
              refine g_istore C [(8, .int 0), (0, .ref ((B 0) 0)), (1, .int x), (2, .int y), (3, .int z), (4, .long (lN (abN w k (biN n k k) 0))), (6, .long 1)] dX4_odds_70 (by decide) rfl ?_
              have J_72 : ∀ (fu : Nat) (i : Nat), n - i < fu → (i ≤ n) → G p l e ({ frames := 2, cells := 0, slots := 0, locals := 56 } : Room) s m args below meth c 9 D A (MQ below (va_Ql (fun (r : Int64) (u : Unit) => r = R_odds S x y z) (Bw D A (fun (_ : Unit) => (ow q B o ++ (hw q (B 1) h1 ++ (hw q (B 2) h2 ++ (hw q (B 3) h3 ++ (tw q (B 4) t ++ (sw q (B 5) g)))))))) A) args s 0 0 A) 72 [(0, .ref ((B 0) 0)), (1, .int x), (2, .int y), (3, .int z), (4, .long (lN (abN w k (biN n k k) i))), (6, .long (lN (100 ^ i))), (8, .int (nI i))] [] (ow q B o ++ (hw q (B 1) h1 ++ (hw q (B 2) h2 ++ (hw q (B 3) h3 ++ (tw q (B 4) t ++ (sw q (B 5) g)))))) 0 0 := by
                intro fu
                induction fu with
                | zero =>
                  intro i hfu
                  exact absurd hfu (Nat.not_lt_zero _)
                | succ fu ih =>
                  intro i hfu hi
                  refine g_iload C dX4_odds_72 6 rfl ?_
                  refine g_iloadn C dX4_odds_74 1 rfl rfl ?_
                  refine g_topci (nI n) (en) ?_
                  refine g_icmpN_ge C 128 (i) (n) dX4_odds_75 rfl (by omega) (by omega) (fun c_75 => ?_) (fun c_75 => ?_)
                  · refine g_lload C dX4_odds_128 4 rfl ?_
                    refine g_lload C dX4_odds_130 5 rfl ?_
                    refine g_iloadn C dX4_odds_132 3 rfl rfl ?_
                    refine g_call0l C (rd_S C (k_X4_partOf l D q tt (abN w k (biN n k k) i) (100 ^ i) z (ab_lt (by omega) (hbk k (by omega)) (by omega)) (Nat.lt_of_le_of_lt (p100 i (by omega)) (by decide)) (Nat.pow_pos (by decide))) gX4_odds_X4_partOf rfl rfl rfl 3 ok_X4_partOf (rest := []) rfl rfl (Nat.le_of_ble_eq_true rfl) dX4_odds_133 ⟨(Nat.le_of_ble_eq_true rfl), (Nat.le_of_ble_eq_true rfl)⟩ ⟨(Nat.le_of_ble_eq_true rfl), (Nat.le_of_ble_eq_true rfl)⟩) (fun _ => rfl) (fun r_133 _ h_133 => ?_)
                    obtain rfl := h_133
                    exact g_lret C () hr dX4_odds_136 (Nat.le_of_ble_eq_true rfl) (Nat.le_of_ble_eq_true rfl) rfl (by unfold R_odds; rw [if_pos ⟨c_7, c_16, c_25⟩, en2, ek2, show (S 6).toNatClampNeg = w from (by rw [ew]; exact nI_clamp (by omega)), show i = n by omega])
                  · refine g_lload C dX4_odds_78 4 rfl ?_
                    refine g_iload C dX4_odds_80 6 rfl ?_
                    refine g_iloadn C dX4_odds_82 2 rfl rfl ?_
                    refine g_topci (nI k) (ek) ?_
                    refine g_icmpN_ge C 98 (i) (k) dX4_odds_83 rfl (by omega) (by omega) (fun c_83 => ?_) (fun c_83 => ?_)
                    · refine g_bipush C 100 dX4_odds_98 (by decide) ?_
                      refine g_aloadn C dX4_odds_100 0 rfl rfl ?_
                      refine g_get C fx4 w_1 0 0 (v := .ref ((B 1) 0)) rfl (by decide) w_2 rfl dX4_odds_101 ?_
                      refine g_get C fx0 w_3 5 0 (v := .ref ((B 1) 1)) rfl (by decide) w_4 rfl dX4_odds_104 ?_
                      refine g_iconst C 3 dX4_odds_107 (by decide) ?_
                      refine g_iald C 6 (3) (f := (hL h1)) rfl rfl (by omega) (by decide) dX4_odds_108 ?_
                      refine g_topci (S (3 + 3)) (rS.1 _ (by omega)) ?_
                      refine g_topci (nI w) (ew) ?_
                      refine g_isub C dX4_odds_109 ?_
                      refine g_topci (nI (100 - w)) (n100 (by omega)) ?_
                      refine g_i2l C dX4_odds_110 ?_
                      refine g_topcl (lN (100 - w)) (nI_l (by omega)) ?_
                      refine g_lmul C dX4_odds_111 ?_
                      refine g_topcl (lN (abN w k (biN n k k) (i + 1))) (ab_2 (by omega)) ?_
                      refine g_lstore C [(4, .long (lN (abN w k (biN n k k) (i + 1)))), (0, .ref ((B 0) 0)), (1, .int x), (2, .int y), (3, .int z), (6, .long (lN (100 ^ i))), (8, .int (nI i))] dX4_odds_112 (by decide) rfl ?_
                      refine g_lload C dX4_odds_114 5 rfl ?_
                      refine g_ldc2 C (100) dX4_odds_116 w_5 ?_
                      refine g_lmul C dX4_odds_119 ?_
                      refine g_topcl (lN (100 ^ (i + 1))) (lN_mul (100 ^ i) 100) ?_
                      refine g_lstore C [(6, .long (lN (100 ^ (i + 1)))), (4, .long (lN (abN w k (biN n k k) (i + 1)))), (0, .ref ((B 0) 0)), (1, .int x), (2, .int y), (3, .int z), (8, .int (nI i))] dX4_odds_120 (by decide) rfl ?_
                      refine g_iinc C (nI (i + 1)) [(8, .int (nI (i + 1))), (6, .long (lN (100 ^ (i + 1)))), (4, .long (lN (abN w k (biN n k k) (i + 1)))), (0, .ref ((B 0) 0)), (1, .int x), (2, .int y), (3, .int z)] dX4_odds_122 6 rfl (nI_add i 1) (by decide) rfl ?_
                      refine g_goto C 72 dX4_odds_125 rfl ?_
                      refine g_sub [3, 4, 5, 6, 2, 1, 0] (lv' := [(0, .ref ((B 0) 0)), (1, .int x), (2, .int y), (3, .int z), (4, .long (lN (abN w k (biN n k k) (i + 1)))), (6, .long (lN (100 ^ (i + 1)))), (8, .int (nI (i + 1)))]) rfl ?_
                      exact ih ((i + 1)) (by omega) (by first | assumption | omega)
                    · refine g_aloadn C dX4_odds_86 0 rfl rfl ?_
                      refine g_get C fx4 w_1 0 0 (v := .ref ((B 1) 0)) rfl (by decide) w_2 rfl dX4_odds_87 ?_
                      refine g_get C fx0 w_3 5 0 (v := .ref ((B 1) 1)) rfl (by decide) w_4 rfl dX4_odds_90 ?_
                      refine g_iconst C 3 dX4_odds_93 (by decide) ?_
                      refine g_iald C 6 (3) (f := (hL h1)) rfl rfl (by omega) (by decide) dX4_odds_94 ?_
                      refine g_topci (S (3 + 3)) (rS.1 _ (by omega)) ?_
                      refine g_topci (nI w) (ew) ?_
                      refine g_goto C 110 dX4_odds_95 rfl ?_
                      refine g_i2l C dX4_odds_110 ?_
                      refine g_topcl (lN w) (nI_l (by omega)) ?_
                      refine g_lmul C dX4_odds_111 ?_
                      refine g_topcl (lN (abN w k (biN n k k) (i + 1))) (ab_1 (by omega)) ?_
                      refine g_lstore C [(4, .long (lN (abN w k (biN n k k) (i + 1)))), (0, .ref ((B 0) 0)), (1, .int x), (2, .int y), (3, .int z), (6, .long (lN (100 ^ i))), (8, .int (nI i))] dX4_odds_112 (by decide) rfl ?_
                      refine g_lload C dX4_odds_114 5 rfl ?_
                      refine g_ldc2 C (100) dX4_odds_116 w_5 ?_
                      refine g_lmul C dX4_odds_119 ?_
                      refine g_topcl (lN (100 ^ (i + 1))) (lN_mul (100 ^ i) 100) ?_
                      refine g_lstore C [(6, .long (lN (100 ^ (i + 1)))), (4, .long (lN (abN w k (biN n k k) (i + 1)))), (0, .ref ((B 0) 0)), (1, .int x), (2, .int y), (3, .int z), (8, .int (nI i))] dX4_odds_120 (by decide) rfl ?_
                      refine g_iinc C (nI (i + 1)) [(8, .int (nI (i + 1))), (6, .long (lN (100 ^ (i + 1)))), (4, .long (lN (abN w k (biN n k k) (i + 1)))), (0, .ref ((B 0) 0)), (1, .int x), (2, .int y), (3, .int z)] dX4_odds_122 6 rfl (nI_add i 1) (by decide) rfl ?_
                      refine g_goto C 72 dX4_odds_125 rfl ?_
                      refine g_sub [3, 4, 5, 6, 2, 1, 0] (lv' := [(0, .ref ((B 0) 0)), (1, .int x), (2, .int y), (3, .int z), (4, .long (lN (abN w k (biN n k k) (i + 1)))), (6, .long (lN (100 ^ (i + 1)))), (8, .int (nI (i + 1)))]) rfl ?_
                      exact ih ((i + 1)) (by omega) (by first | assumption | omega)
              refine g_sub [1, 2, 3, 4, 5, 6, 0] (lv' := [(0, .ref ((B 0) 0)), (1, .int x), (2, .int y), (3, .int z), (4, .long (lN (abN w k (biN n k k) 0))), (6, .long 1), (8, .int 0)]) rfl ?_
              exact J_72 _ (0) (Nat.lt_succ_self _) (by first | assumption | omega)
            · have hbm := bi_mul n (by omega) k (by omega) u (by omega)
              refine g_lload C dX4_odds_47 4 rfl ?_
              refine g_iloadn C dX4_odds_49 1 rfl rfl ?_
              refine g_topci (nI n) (en) ?_
              refine g_iloadn C dX4_odds_50 2 rfl rfl ?_
              refine g_topci (nI k) (ek) ?_
              refine g_isub C dX4_odds_51 ?_
              refine g_topci (nI (n - k)) (pk_sub hk) ?_
              refine g_iload C dX4_odds_52 6 rfl ?_
              refine g_iadd C dX4_odds_54 ?_
              refine g_topci (nI ((n - k) + (u + 1))) ((ix_add rfl rfl)) ?_
              refine g_i2l C dX4_odds_55 ?_
              refine g_topcl (lN (n - k + (u + 1))) (nI_l (by omega)) ?_
              refine g_lmul C dX4_odds_56 ?_
              refine g_topcl (lN (biN n k u * (n - k + (u + 1)))) (lN_mul _ _) ?_
              refine g_iload C dX4_odds_57 6 rfl ?_
              refine g_i2l C dX4_odds_59 ?_
              refine g_topcl (lN (u + 1)) (nI_l (by omega)) ?_
              refine g_ldiv C dX4_odds_60 (lN_ne (by omega) (by omega)) ?_
              refine g_topcl (lN (biN n k (u + 1))) (pk_lDiv (by omega) (by omega) (by omega)) ?_
              refine g_lstore C [(4, .long (lN (biN n k (u + 1)))), (0, .ref ((B 0) 0)), (1, .int x), (2, .int y), (3, .int z), (6, .long 1), (8, .int (nI (u + 1)))] dX4_odds_61 (by decide) rfl ?_
              refine g_iinc C (nI ((u + 1) + 1)) [(8, .int (nI ((u + 1) + 1))), (4, .long (lN (biN n k (u + 1)))), (0, .ref ((B 0) 0)), (1, .int x), (2, .int y), (3, .int z), (6, .long 1)] dX4_odds_63 6 rfl (nI_add (u + 1) 1) (by decide) rfl ?_
              refine g_goto C 41 dX4_odds_66 rfl ?_
              refine g_sub [2, 3, 4, 5, 1, 6, 0] (lv' := [(0, .ref ((B 0) 0)), (1, .int x), (2, .int y), (3, .int z), (4, .long (lN (biN n k (u + 1)))), (6, .long 1), (8, .int (nI ((u + 1) + 1)))]) rfl ?_
              exact ih ((u + 1)) (by omega) (by first | assumption | omega)
        refine g_sub [3, 4, 5, 6, 2, 1, 0] (lv' := [(0, .ref ((B 0) 0)), (1, .int x), (2, .int y), (3, .int z), (4, .long 1), (6, .long 1), (8, .int 1)]) rfl ?_
        exact J_41 _ (0) (Nat.lt_succ_self _) (by first | assumption | omega)
      · refine g_ldc2 C (-1) dX4_odds_28 w_0 ?_
        exact g_lret C () hr dX4_odds_31 (Nat.le_of_ble_eq_true rfl) (Nat.le_of_ble_eq_true rfl) rfl (by unfold R_odds; rw [if_neg (fun q => by first | exact c_7 q.1 | exact c_16 q.2.1 | exact c_25 q.2.2)])

set_option maxRecDepth 100000 in
set_option maxHeartbeats 4000000 in
theorem k_X4_hope (l : Launch) (D : va_G) (q : Nat → ClassId) (tt : Nat → Nat) (B : Nat → Nat → Nat) (o : OC) (h1 : HC) (h2 : HC) (h3 : HC) (t : TC) (g : GC) (S : Nat → Int32) (N : Nat) (x : Int32) (y : Int32) (hG : Gd S N) (rS : HR S N h1) : ML l D q tt yX4_hope wsX4_hope ({ frames := 2, cells := 0, slots := 0, locals := 56 } : Room) [.ref ((B 0) 0), .int x, .int y] (ow q B o ++ (hw q (B 1) h1 ++ (hw q (B 2) h2 ++ (hw q (B 3) h3 ++ (tw q (B 4) t ++ (sw q (B 5) g)))))) (fun (r : Int64) (u : Unit) => r = R_hope S x y) (fun (_ : Unit) => (ow q B o ++ (hw q (B 1) h1 ++ (hw q (B 2) h2 ++ (hw q (B 3) h3 ++ (tw q (B 4) t ++ (sw q (B 5) g))))))) 0 0 := by
  refine ML.of RX4 [(0, .ref ((B 0) 0)), (1, .int x), (2, .int y)] (by decide) rfl rfl (Nat.le_of_ble_eq_true rfl) rfl ?_
  intro p e s m args below meth c A C hr hnm
  have w_0 : Cond.constantLong RX4 217 (-1) ∈ wsX4_hope := by decide +kernel
  have w_1 : ∀ w ∈ u_ws RX4 TX4 11, w ∈ wsX4_hope := by decide +kernel
  have w_2 : Cond.fieldLink RX4 10 (TX4 0).1 (TX4 0).2.1 (TX4 0).2.2.1 ∈ wsX4_hope := by decide +kernel
  have w_3 : ∀ w ∈ u_ws RX0 TX0 11, w ∈ wsX4_hope := by decide +kernel
  have w_4 : Cond.fieldLink RX4 98 (TX0 0).1 (TX0 0).2.1 (TX0 0).2.2.1 ∈ wsX4_hope := by decide +kernel
  have w_5 : Cond.constantLong RX4 219 (100) ∈ wsX4_hope := by decide +kernel
  have h8 := hG.le
  have hS0 := hG.n
  refine g_iloadn C dX4_hope_0 1 rfl rfl ?_
  refine g_iconst C 0 dX4_hope_1 (by decide) ?_
  refine g_bipush C 99 dX4_hope_2 (by decide) ?_
  refine g_call0i C (rd_S C (k_X4_within l D q tt x 0 99 ) gX4_hope_X4_within rfl rfl rfl 3 ok_X4_within (rest := []) rfl rfl (Nat.le_of_ble_eq_true rfl) dX4_hope_4 ⟨(Nat.le_of_ble_eq_true rfl), (Nat.le_of_ble_eq_true rfl)⟩ ⟨(Nat.le_of_ble_eq_true rfl), (Nat.le_of_ble_eq_true rfl)⟩) (fun _ => rfl) (fun r_4 _ h_4 => ?_)
  obtain rfl := h_4
  refine g_ifeqE C 19 dX4_hope_7 rfl rfl (fun c_7 => ?_) (fun c_7 => ?_)
  · refine g_ldc2 C (-1) dX4_hope_19 w_0 ?_
    exact g_lret C () hr dX4_hope_22 (Nat.le_of_ble_eq_true rfl) (Nat.le_of_ble_eq_true rfl) rfl (by unfold R_hope; rw [if_neg (fun q => by first | exact c_7 q.1 | exact c_16 q.2)])
  · refine g_iloadn C dX4_hope_10 2 rfl rfl ?_
    refine g_iconst C 0 dX4_hope_11 (by decide) ?_
    refine g_iconst C 1 dX4_hope_12 (by decide) ?_
    refine g_call0i C (rd_S C (k_X4_within l D q tt y 0 1 ) gX4_hope_X4_within rfl rfl rfl 3 ok_X4_within (rest := []) rfl rfl (Nat.le_of_ble_eq_true rfl) dX4_hope_13 ⟨(Nat.le_of_ble_eq_true rfl), (Nat.le_of_ble_eq_true rfl)⟩ ⟨(Nat.le_of_ble_eq_true rfl), (Nat.le_of_ble_eq_true rfl)⟩) (fun _ => rfl) (fun r_13 _ h_13 => ?_)
    obtain rfl := h_13
    refine g_ifneE C 23 dX4_hope_16 rfl rfl (fun c_16 => ?_) (fun c_16 => ?_)
    · obtain ⟨n, hn, en, en2⟩ := ix_le (n := 99) (by omega) c_7
      obtain ⟨w, hw_, ew⟩ := hG.2.2.2.2.1
      have hnw : n * w ≤ 99 * 99 := Nat.mul_le_mul hn hw_
      refine g_iloadn C dX4_hope_23 1 rfl rfl ?_
      refine g_topci (nI n) (en) ?_
      refine g_i2l C dX4_hope_24 ?_
      refine g_topcl (lN n) (nI_l (by omega)) ?_
      refine g_aloadn C dX4_hope_25 0 rfl rfl ?_
      refine g_get C fx4 w_1 0 0 (v := .ref ((B 1) 0)) rfl (by decide) w_2 rfl dX4_hope_26 ?_
      refine g_get C fx0 w_3 5 0 (v := .ref ((B 1) 1)) rfl (by decide) w_4 rfl dX4_hope_29 ?_
      refine g_iconst C 3 dX4_hope_32 (by decide) ?_
      refine g_iald C 6 (3) (f := (hL h1)) rfl rfl (by omega) (by decide) dX4_hope_33 ?_
      refine g_topci (S (3 + 3)) (rS.1 _ (by omega)) ?_
      refine g_topci (nI w) (ew) ?_
      refine g_i2l C dX4_hope_34 ?_
      refine g_topcl (lN w) (nI_l (by omega)) ?_
      refine g_lmul C dX4_hope_35 ?_
      refine g_topcl (lN (n * w)) (lN_mul _ _) ?_
      refine g_ldc2 C (100) dX4_hope_36 w_5 ?_
      refine g_topcl (lN 100) (rfl) ?_
      refine g_iloadn C dX4_hope_39 2 rfl rfl ?_
      refine g_call0l C (rd_S C (k_X4_partOf l D q tt (n * w) 100 y (by omega) (by decide) (by decide)) gX4_hope_X4_partOf rfl rfl rfl 3 ok_X4_partOf (rest := []) rfl rfl (Nat.le_of_ble_eq_true rfl) dX4_hope_40 ⟨(Nat.le_of_ble_eq_true rfl), (Nat.le_of_ble_eq_true rfl)⟩ ⟨(Nat.le_of_ble_eq_true rfl), (Nat.le_of_ble_eq_true rfl)⟩) (fun _ => rfl) (fun r_40 _ h_40 => ?_)
      obtain rfl := h_40
      exact g_lret C () hr dX4_hope_43 (Nat.le_of_ble_eq_true rfl) (Nat.le_of_ble_eq_true rfl) rfl (by unfold R_hope; rw [if_pos ⟨c_7, c_16⟩, en2, show (S 6).toNatClampNeg = w from (by rw [ew]; exact nI_clamp (by omega))])
    · refine g_ldc2 C (-1) dX4_hope_19 w_0 ?_
      exact g_lret C () hr dX4_hope_22 (Nat.le_of_ble_eq_true rfl) (Nat.le_of_ble_eq_true rfl) rfl (by unfold R_hope; rw [if_neg (fun q => by first | exact c_7 q.1 | exact c_16 q.2)])

