set_option maxRecDepth 100000 in
set_option maxHeartbeats 4000000 in
theorem k_mindsS (l : Launch) (D : va_G) (q : Nat → ClassId) (tt : Nat → Nat) (B : Nat → Nat → Nat) (o : OC) (h1 : HC) (h2 : HC) (h3 : HC) (t : TC) (g : GC) (S : Nat → Int32) (N : Nat) (xa : Nat) (ya : Nat) (so : Int32) (n : Nat) (f : Nat → Int64) (g_ : Nat → Int32) (j : Nat) (y : Int32) (z : Int32) (w : Int32) (hG : Gd S N) (rS : HR S N h1) (hn : n ≤ 40) (hj : j < 4) (hsome : (o_sheets o) j = some xa) (hf : ∀ k, k < n → f k = (g_ k).toInt64) : MI l D q tt yX4_minds wsX4_minds ({ frames := 2, cells := 0, slots := 0, locals := 43 } : Room) [.ref ((B 0) 0), .int (nI j), .int y, .int z, .int w] (ow q B o ++ (hw q (B 1) h1 ++ (hw q (B 2) h2 ++ (hw q (B 3) h3 ++ (tw q (B 4) t ++ (sw q (B 5) g ++ (([(xa, .inr (1, [.int so, .ref ya]))] : va_W) ++ (([(ya, aJ (q 3) n f)] : va_W))))))))) (fun (r : Int32) (u : HC) => r = (if miG S (nI j) y z w then (if so = 0 then (if (0 ≤ y ∧ y ≤ nI n) ∧ y.toNatClampNeg + w.toNatClampNeg ≤ n then w else -12) else -13) else -1) ∧ Gd (if (miG S (nI j) y z w ∧ so = 0 ∧ (0 ≤ y ∧ y ≤ nI n) ∧ y.toNatClampNeg + w.toNatClampNeg ≤ n) then miL S g_ z.toNatClampNeg y.toNatClampNeg w.toNatClampNeg else S) N ∧ HR (if (miG S (nI j) y z w ∧ so = 0 ∧ (0 ≤ y ∧ y ≤ nI n) ∧ y.toNatClampNeg + w.toNatClampNeg ≤ n) then miL S g_ z.toNatClampNeg y.toNatClampNeg w.toNatClampNeg else S) N u) (fun u => (ow q B o ++ (hw q (B 1) u ++ (hw q (B 2) h2 ++ (hw q (B 3) h3 ++ (tw q (B 4) t ++ (sw q (B 5) g ++ (([(xa, .inr (1, [.int so, .ref ya]))] : va_W) ++ (([(ya, aJ (q 3) n f)] : va_W)))))))))) 0 0 := by
  refine MI.of RX4 [(0, .ref ((B 0) 0)), (1, .int (nI j)), (2, .int y), (3, .int z), (4, .int w)] (by decide) rfl rfl (Nat.le_of_ble_eq_true rfl) rfl ?_
  intro p e s m args below meth c A C hr hnm
  have w_0 : ∀ w ∈ u_ws RX4 TX4 11, w ∈ wsX4_minds := by decide +kernel
  have w_1 : Cond.fieldLink RX4 10 (TX4 0).1 (TX4 0).2.1 (TX4 0).2.2.1 ∈ wsX4_minds := by decide +kernel
  have w_2 : ∀ w ∈ u_ws RX0 TX0 11, w ∈ wsX4_minds := by decide +kernel
  have w_3 : Cond.fieldLink RX4 85 (TX0 5).1 (TX0 5).2.1 (TX0 5).2.2.1 ∈ wsX4_minds := by decide +kernel
  have w_4 : Cond.fieldLink RX4 50 (TX4 8).1 (TX4 8).2.1 (TX4 8).2.2.1 ∈ wsX4_minds := by decide +kernel
  have w_5 : ∀ w ∈ u_ws RX1 TX1 2, w ∈ wsX4_minds := by decide +kernel
  have w_6 : Cond.fieldLink RX4 235 (TX1 0).1 (TX1 0).2.1 (TX1 0).2.2.1 ∈ wsX4_minds := by decide +kernel
  have w_7 : Cond.fieldLink RX4 213 (TX1 1).1 (TX1 1).2.1 (TX1 1).2.2.1 ∈ wsX4_minds := by decide +kernel
  have w_8 : Cond.fieldLink RX4 123 (TX0 2).1 (TX0 2).2.1 (TX0 2).2.2.1 ∈ wsX4_minds := by decide +kernel
  have h8 := hG.le
  have hS0 := hG.n
  refine g_iloadn C dX4_minds_0 1 rfl rfl ?_
  refine g_call0i C (rd_S C (k_X4_isPlace l D q tt (nI j) ) gX4_minds_X4_isPlace rfl rfl rfl 1 ok_X4_isPlace (rest := []) rfl rfl (Nat.le_of_ble_eq_true rfl) dX4_minds_1 ⟨(Nat.le_of_ble_eq_true rfl), (Nat.le_of_ble_eq_true rfl)⟩ ⟨(Nat.le_of_ble_eq_true rfl), (Nat.le_of_ble_eq_true rfl)⟩) (fun _ => rfl) (fun r_1 _ h_1 => ?_)
  obtain rfl := h_1
  refine g_topci 1 (bI_t ⟨nI_pos' (by omega), nI_le (b := 3) (by omega) (by omega)⟩) ?_
  refine g_if_eqF C 43 dX4_minds_4 rfl (by decide) ?_
  refine g_aloadn C dX4_minds_7 0 rfl rfl ?_
  refine g_get C fx4 w_0 0 0 (v := .ref ((B 1) 0)) rfl (by decide) w_1 rfl dX4_minds_8 ?_
  refine g_iloadn C dX4_minds_11 3 rfl rfl ?_
  refine g_callWi (w1 := (ow q B o ++ (hw q (B 1) h1 ++ (hw q (B 2) h2 ++ (hw q (B 3) h3 ++ (tw q (B 4) t ++ (sw q (B 5) g ++ (([(xa, .inr (1, [.int so, .ref ya]))] : va_W) ++ (([(ya, aJ (q 3) n f)] : va_W)))))))))) (wr := ([0, 1, 2, 3, 4, 13, 14, 15, 16, 17, 18, 19, 20, 21, 22, 23, 24, 25, 26, 27, 28, 29, 30, 31, 32, 33, 34] : List Nat).filterMap (fun i => (ow q B o ++ (hw q (B 1) h1 ++ (hw q (B 2) h2 ++ (hw q (B 3) h3 ++ (tw q (B 4) t ++ (sw q (B 5) g ++ (([(xa, .inr (1, [.int so, .ref ya]))] : va_W) ++ (([(ya, aJ (q 3) n f)] : va_W)))))))))[i]?)) (isC := [5, 6, 7, 8, 9, 10, 11, 12]) (isR := [0, 1, 2, 3, 4, 13, 14, 15, 16, 17, 18, 19, 20, 21, 22, 23, 24, 25, 26, 27, 28, 29, 30, 31, 32, 33, 34]) (pm := [0, 1, 2, 3, 4, 27, 28, 29, 30, 31, 32, 33, 34, 5, 6, 7, 8, 9, 10, 11, 12, 13, 14, 15, 16, 17, 18, 19, 20, 21, 22, 23, 24, 25, 26]) (w1' := (fun _ => (ow q B o ++ (hw q (B 1) h1 ++ (hw q (B 2) h2 ++ (hw q (B 3) h3 ++ (tw q (B 4) t ++ (sw q (B 5) g ++ (([(xa, .inr (1, [.int so, .ref ya]))] : va_W) ++ (([(ya, aJ (q 3) n f)] : va_W))))))))))) C (rd_V C (k_X0_has l D q tt (B 1) h1 S N z (by first | assumption | omega) (by first | assumption | omega)) gX4_minds_X0_has rfl rfl rfl 1 ok_X0_has rfl 0 rfl rfl (rest := []) rfl rfl (Nat.le_of_ble_eq_true rfl) dX4_minds_12 ⟨(Nat.le_of_ble_eq_true rfl), (Nat.le_of_ble_eq_true rfl)⟩ ⟨(Nat.le_of_ble_eq_true rfl), (Nat.le_of_ble_eq_true rfl)⟩) rfl rfl rfl (fun _ => rfl) rfl (fun r_12 _ h_12 => ?_)
  obtain rfl := h_12
  refine g_ifeqE C 43 dX4_minds_15 rfl rfl (fun c_15 => ?_) (fun c_15 => ?_)
  · refine g_iconst C (-1) dX4_minds_43 (by decide) ?_
    exact g_iret C h1 hr dX4_minds_44 (Nat.le_of_ble_eq_true rfl) (Nat.le_of_ble_eq_true rfl) rfl (by have hn_ : ¬ miG S (nI j) y z w := fun h => c_15 (by rw [← hS0]; exact h.2.1); rw [if_neg hn_, if_neg (fun h => hn_ h.1)]; exact ⟨rfl, hG, rS⟩)
  · refine g_iload C dX4_minds_18 4 rfl ?_
    refine g_iconst C 0 dX4_minds_20 (by decide) ?_
    refine g_bipush C 8 dX4_minds_21 (by decide) ?_
    refine g_call0i C (rd_S C (k_X4_within l D q tt w 0 8 ) gX4_minds_X4_within rfl rfl rfl 3 ok_X4_within (rest := []) rfl rfl (Nat.le_of_ble_eq_true rfl) dX4_minds_23 ⟨(Nat.le_of_ble_eq_true rfl), (Nat.le_of_ble_eq_true rfl)⟩ ⟨(Nat.le_of_ble_eq_true rfl), (Nat.le_of_ble_eq_true rfl)⟩) (fun _ => rfl) (fun r_23 _ h_23 => ?_)
    obtain rfl := h_23
    refine g_ifeqE C 43 dX4_minds_26 rfl rfl (fun c_26 => ?_) (fun c_26 => ?_)
    · refine g_iconst C (-1) dX4_minds_43 (by decide) ?_
      exact g_iret C h1 hr dX4_minds_44 (Nat.le_of_ble_eq_true rfl) (Nat.le_of_ble_eq_true rfl) rfl (by have hn_ : ¬ miG S (nI j) y z w := fun h => c_26 h.2.2.1; rw [if_neg hn_, if_neg (fun h => hn_ h.1)]; exact ⟨rfl, hG, rS⟩)
    · refine g_iloadn C dX4_minds_29 3 rfl rfl ?_
      refine g_iload C dX4_minds_30 4 rfl ?_
      refine g_iadd C dX4_minds_32 ?_
      refine g_aloadn C dX4_minds_33 0 rfl rfl ?_
      refine g_get C fx4 w_0 0 0 (v := .ref ((B 1) 0)) rfl (by decide) w_1 rfl dX4_minds_34 ?_
      refine g_get C fx0 w_2 5 5 (v := .int (hN h1)) rfl (by decide) w_3 rfl dX4_minds_37 ?_
      refine g_topci (nI N) (rS.n hG) ?_
      refine g_icmp_le C 45 dX4_minds_40 rfl (fun c_40 => ?_) (fun c_40 => ?_)
      · obtain ⟨d, hd, ed, ed2⟩ := ix_lt (by omega) c_15
        obtain ⟨b, hb, eb, eb2⟩ := ix_le (n := 8) (by omega) c_26
        have hdb : d + b ≤ N := by have h_ := c_40; rw [ed, eb, nI_add] at h_; exact (nI_leI (by omega) (by omega)).mp h_
        refine g_aloadn C dX4_minds_45 0 rfl rfl ?_
        refine g_get C fx4 w_0 0 8 (v := .ref ((B 0) 2)) rfl (by decide) w_4 rfl dX4_minds_46 ?_
        refine g_iloadn C dX4_minds_49 1 rfl rfl ?_
        refine g_aldS C 2 (j) (f := (o_sheets o)) rfl rfl (by omega) (by decide) (y := xa) (hsome) dX4_minds_50 ?_
        refine g_astore C [(5, .ref xa), (0, .ref ((B 0) 0)), (1, .int (nI j)), (2, .int y), (3, .int z), (4, .int w)] dX4_minds_51 (by decide) rfl ?_
        refine g_aload C dX4_minds_53 0 rfl ?_
        refine g_ifnonnull C 61 dX4_minds_55 rfl ?_
        refine g_aload C dX4_minds_61 0 rfl ?_
        refine g_get C fx1 w_5 33 0 (v := .int so) rfl (by decide) w_6 rfl dX4_minds_63 ?_
        refine g_if_eq C 72 dX4_minds_66 rfl (fun c_66 => ?_) (fun c_66 => ?_)
        · refine g_aload C dX4_minds_72 0 rfl ?_
          refine g_get C fx1 w_5 33 1 (v := .ref ya) rfl (by decide) w_7 rfl dX4_minds_74 ?_
          refine g_alen C 34 (nI n) rfl (t0 := 3) rfl rfl dX4_minds_77 ?_
          refine g_istore C [(6, .int (nI n)), (5, .ref xa), (0, .ref ((B 0) 0)), (1, .int (nI j)), (2, .int y), (3, .int z), (4, .int w)] dX4_minds_78 (by decide) rfl ?_
          refine g_iloadn C dX4_minds_80 4 rfl rfl ?_
          refine g_iconst C 0 dX4_minds_81 (by decide) ?_
          refine g_iload C dX4_minds_82 0 rfl ?_
          refine g_call0i C (rd_S C (k_X4_within l D q tt y 0 (nI n) ) gX4_minds_X4_within rfl rfl rfl 3 ok_X4_within (rest := []) rfl rfl (Nat.le_of_ble_eq_true rfl) dX4_minds_84 ⟨(Nat.le_of_ble_eq_true rfl), (Nat.le_of_ble_eq_true rfl)⟩ ⟨(Nat.le_of_ble_eq_true rfl), (Nat.le_of_ble_eq_true rfl)⟩) (fun _ => rfl) (fun r_84 _ h_84 => ?_)
          obtain rfl := h_84
          refine g_ifeqE C 99 dX4_minds_87 rfl rfl (fun c_87 => ?_) (fun c_87 => ?_)
          · refine g_bipush C (-12) dX4_minds_99 (by decide) ?_
            exact g_iret C h1 hr dX4_minds_101 (Nat.le_of_ble_eq_true rfl) (Nat.le_of_ble_eq_true rfl) rfl (by
                have hg_ : miG S (nI j) y z w := ⟨⟨nI_pos' (by omega), nI_le (b := 3) (by omega) (by omega)⟩, by rw [hS0]; exact c_15, c_26, by rw [hS0]; exact c_40⟩
                have hq_ : ¬ ((0 ≤ y ∧ y ≤ nI n) ∧ y.toNatClampNeg + w.toNatClampNeg ≤ n) := fun h => c_87 h.1
                have hh_ : ¬ (miG S (nI j) y z w ∧ so = 0 ∧ (0 ≤ y ∧ y ≤ nI n) ∧ y.toNatClampNeg + w.toNatClampNeg ≤ n) := fun h => c_87 h.2.2.1
                rw [if_pos hg_, if_pos c_66, if_neg hq_, if_neg hh_]; exact ⟨rfl, hG, rS⟩)
          · obtain ⟨i, hi, ei, ei2⟩ := ix_le (by omega) c_87
            refine g_iload C dX4_minds_90 6 rfl ?_
            refine g_iload C dX4_minds_92 0 rfl ?_
            refine g_iloadn C dX4_minds_94 4 rfl rfl ?_
            refine g_isub C dX4_minds_95 ?_
            refine g_topci (nI (n - i)) (by rw [ei]; exact pk_sub hi) ?_
            refine g_icmp_le C 102 dX4_minds_96 rfl (fun c_96 => ?_) (fun c_96 => ?_)
            · have hib : i + b ≤ n := by have h_ := c_96; rw [eb] at h_; have h2_ := (nI_leI (a := b) (b := n - i) (by omega) (by omega)).mp h_; omega
              refine g_iconst C 0 dX4_minds_102 (by decide) ?_
              refine g_istore C [(7, .int 0), (6, .int (nI n)), (5, .ref xa), (0, .ref ((B 0) 0)), (1, .int (nI j)), (2, .int y), (3, .int z), (4, .int w)] dX4_minds_103 (by decide) rfl ?_
              have J_105 : ∀ (fu : Nat) (k : Nat) (pr : Nat → Int32), b - k < fu → (k ≤ b) → (Gd (miL S g_ d i k) N ∧ HR (miL S g_ d i k) N (hL h1, hK h1, pr, hE h1, hR h1, hN h1, hC h1, hM h1, hZ h1, hJ h1, hH h1)) → G p l e ({ frames := 2, cells := 0, slots := 0, locals := 43 } : Room) s m args below meth c 8 D A (MQ below (va_Qi (fun (r : Int32) (u : HC) => r = (if miG S (nI j) y z w then (if so = 0 then (if (0 ≤ y ∧ y ≤ nI n) ∧ y.toNatClampNeg + w.toNatClampNeg ≤ n then w else -12) else -13) else -1) ∧ Gd (if (miG S (nI j) y z w ∧ so = 0 ∧ (0 ≤ y ∧ y ≤ nI n) ∧ y.toNatClampNeg + w.toNatClampNeg ≤ n) then miL S g_ z.toNatClampNeg y.toNatClampNeg w.toNatClampNeg else S) N ∧ HR (if (miG S (nI j) y z w ∧ so = 0 ∧ (0 ≤ y ∧ y ≤ nI n) ∧ y.toNatClampNeg + w.toNatClampNeg ≤ n) then miL S g_ z.toNatClampNeg y.toNatClampNeg w.toNatClampNeg else S) N u) (Bw D A (fun u => (ow q B o ++ (hw q (B 1) u ++ (hw q (B 2) h2 ++ (hw q (B 3) h3 ++ (tw q (B 4) t ++ (sw q (B 5) g ++ (([(xa, .inr (1, [.int so, .ref ya]))] : va_W) ++ (([(ya, aJ (q 3) n f)] : va_W))))))))))) A) args s 0 0 A) 105 [(0, .ref ((B 0) 0)), (1, .int (nI j)), (2, .int y), (3, .int z), (4, .int w), (5, .ref xa), (6, .int (nI n)), (7, .int (nI k))] [] (ow q B o ++ (hw q (B 1) ((hL h1), (hK h1), pr, (hE h1), (hR h1), (hN h1), (hC h1), (hM h1), (hZ h1), (hJ h1), (hH h1)) ++ (hw q (B 2) h2 ++ (hw q (B 3) h3 ++ (tw q (B 4) t ++ (sw q (B 5) g ++ (([(xa, .inr (1, [.int so, .ref ya]))] : va_W) ++ (([(ya, aJ (q 3) n f)] : va_W))))))))) 0 0 := by
                intro fu
                induction fu with
                | zero =>
                  intro k pr hfu
                  exact absurd hfu (Nat.not_lt_zero _)
                | succ fu ih =>
                  intro k pr hfu hk hQ
                  refine g_iload C dX4_minds_105 7 rfl ?_
                  refine g_iload C dX4_minds_107 4 rfl ?_
                  refine g_topci (nI b) (eb) ?_
                  refine g_icmpN_ge C 144 (k) (b) dX4_minds_109 rfl (by omega) (by omega) (fun c_109 => ?_) (fun c_109 => ?_)
                  · refine g_iload C dX4_minds_144 4 rfl ?_
                    exact g_iret C ((hL h1), (hK h1), pr, (hE h1), (hR h1), (hN h1), (hC h1), (hM h1), (hZ h1), (hJ h1), (hH h1)) hr dX4_minds_146 (Nat.le_of_ble_eq_true rfl) (Nat.le_of_ble_eq_true rfl) rfl (by
                        have hg_ : miG S (nI j) y z w := ⟨⟨nI_pos' (by omega), nI_le (b := 3) (by omega) (by omega)⟩, by rw [hS0]; exact c_15, c_26, by rw [hS0]; exact c_40⟩
                        have hx_ : y.toNatClampNeg + w.toNatClampNeg ≤ n := by rw [ei2, eb2]; omega
                        have hq_ : (0 ≤ y ∧ y ≤ nI n) ∧ y.toNatClampNeg + w.toNatClampNeg ≤ n := ⟨c_87, hx_⟩
                        have hh_ : (miG S (nI j) y z w ∧ so = 0 ∧ (0 ≤ y ∧ y ≤ nI n) ∧ y.toNatClampNeg + w.toNatClampNeg ≤ n) := ⟨hg_, c_66, c_87, hx_⟩
                        rw [if_pos hg_, if_pos c_66, if_pos hq_, if_pos hh_, ed2, ei2, eb2, show b = k by omega]; exact ⟨by first | rfl | exact eb | exact eb.symm, hQ.1, hQ.2⟩)
                  · refine g_aloadn C dX4_minds_112 0 rfl rfl ?_
                    refine g_get C fx4 w_0 0 0 (v := .ref ((B 1) 0)) rfl (by decide) w_1 rfl dX4_minds_113 ?_
                    refine g_get C fx0 w_2 5 2 (v := .ref ((B 1) 3)) rfl (by decide) w_8 rfl dX4_minds_116 ?_
                    refine g_iloadn C dX4_minds_119 3 rfl rfl ?_
                    refine g_iload C dX4_minds_120 7 rfl ?_
                    refine g_iadd C dX4_minds_122 ?_
                    refine g_topci (nI (d + k)) (by rw [ed]; exact nI_add d k) ?_
                    refine g_aload C dX4_minds_123 5 rfl ?_
                    refine g_get C fx1 w_5 33 1 (v := .ref ya) rfl (by decide) w_7 rfl dX4_minds_125 ?_
                    refine g_iloadn C dX4_minds_128 2 rfl rfl ?_
                    refine g_iload C dX4_minds_129 7 rfl ?_
                    refine g_iadd C dX4_minds_131 ?_
                    refine g_topci (nI (i + k)) (by rw [ei]; exact nI_add i k) ?_
                    refine g_lald C 34 ((i + k)) (f := f) rfl rfl (by omega) (by omega) dX4_minds_132 ?_
                    refine g_l2i C dX4_minds_133 ?_
                    refine g_topci (g_ (i + k)) (by rw [hf (i + k) (by omega)]; exact Int32.toInt32_toInt64 _) ?_
                    refine g_call0i C (rd_S C (k_X4_heldPride l D q tt (g_ (i + k)) ) gX4_minds_X4_heldPride rfl rfl rfl 1 ok_X4_heldPride (rest := [.int (nI (d + k)), .ref ((B 1) 3)]) rfl rfl (Nat.le_of_ble_eq_true rfl) dX4_minds_134 ⟨(Nat.le_of_ble_eq_true rfl), (Nat.le_of_ble_eq_true rfl)⟩ ⟨(Nat.le_of_ble_eq_true rfl), (Nat.le_of_ble_eq_true rfl)⟩) (fun _ => rfl) (fun r_134 _ h_134 => ?_)
                    obtain rfl := h_134
                    refine g_iast C 8 ((d + k)) (f := pr) rfl rfl (by omega) (by decide) dX4_minds_137 (ow q B o ++ (hw q (B 1) ((hL h1), (hK h1), (upd pr (d + k) (wiS (g_ (i + k)))), (hE h1), (hR h1), (hN h1), (hC h1), (hM h1), (hZ h1), (hJ h1), (hH h1)) ++ (hw q (B 2) h2 ++ (hw q (B 3) h3 ++ (tw q (B 4) t ++ (sw q (B 5) g ++ (([(xa, .inr (1, [.int so, .ref ya]))] : va_W) ++ (([(ya, aJ (q 3) n f)] : va_W))))))))) rfl ?_
                    refine g_iinc C (nI (k + 1)) [(7, .int (nI (k + 1))), (0, .ref ((B 0) 0)), (1, .int (nI j)), (2, .int y), (3, .int z), (4, .int w), (5, .ref xa), (6, .int (nI n))] dX4_minds_138 7 rfl (nI_add k 1) (by decide) rfl ?_
                    refine g_goto C 105 dX4_minds_141 rfl ?_
                    refine g_sub [1, 2, 3, 4, 5, 6, 7, 0] (lv' := [(0, .ref ((B 0) 0)), (1, .int (nI j)), (2, .int y), (3, .int z), (4, .int w), (5, .ref xa), (6, .int (nI n)), (7, .int (nI (k + 1)))]) rfl ?_
                    exact ih ((k + 1)) ((upd pr (d + k) (wiS (g_ (i + k))))) (by omega) (by first | assumption | omega) ⟨hQ.1.w1, hr_p hQ.2 (by omega)⟩
              refine g_sub [3, 4, 5, 6, 7, 2, 1, 0] (lv' := [(0, .ref ((B 0) 0)), (1, .int (nI j)), (2, .int y), (3, .int z), (4, .int w), (5, .ref xa), (6, .int (nI n)), (7, .int 0)]) rfl ?_
              exact J_105 _ (0) ((hP h1)) (Nat.lt_succ_self _) (by first | assumption | omega) ⟨hG, rS⟩
            · have hib : ¬ i + b ≤ n := by have h_ := c_96; rw [eb] at h_; have h2_ := (nI_ltI (a := n - i) (b := b) (by omega) (by omega)).mp (Int32.not_le.mp h_); omega
              refine g_bipush C (-12) dX4_minds_99 (by decide) ?_
              exact g_iret C h1 hr dX4_minds_101 (Nat.le_of_ble_eq_true rfl) (Nat.le_of_ble_eq_true rfl) rfl (by
                  have hg_ : miG S (nI j) y z w := ⟨⟨nI_pos' (by omega), nI_le (b := 3) (by omega) (by omega)⟩, by rw [hS0]; exact c_15, c_26, by rw [hS0]; exact c_40⟩
                  have hx_ : ¬ y.toNatClampNeg + w.toNatClampNeg ≤ n := by rw [ei2, eb2]; omega
                  have hq_ : ¬ ((0 ≤ y ∧ y ≤ nI n) ∧ y.toNatClampNeg + w.toNatClampNeg ≤ n) := fun h => hx_ h.2
                  have hh_ : ¬ (miG S (nI j) y z w ∧ so = 0 ∧ (0 ≤ y ∧ y ≤ nI n) ∧ y.toNatClampNeg + w.toNatClampNeg ≤ n) := fun h => hx_ h.2.2.2
                  rw [if_pos hg_, if_pos c_66, if_neg hq_, if_neg hh_]; exact ⟨rfl, hG, rS⟩)
        · refine g_bipush C (-13) dX4_minds_69 (by decide) ?_
          exact g_iret C h1 hr dX4_minds_71 (Nat.le_of_ble_eq_true rfl) (Nat.le_of_ble_eq_true rfl) rfl (by
              have hg_ : miG S (nI j) y z w := ⟨⟨nI_pos' (by omega), nI_le (b := 3) (by omega) (by omega)⟩, by rw [hS0]; exact c_15, c_26, by rw [hS0]; exact c_40⟩
              rw [if_pos hg_, if_neg c_66, if_neg (fun h => c_66 h.2.1)]; exact ⟨rfl, hG, rS⟩)
      · refine g_iconst C (-1) dX4_minds_43 (by decide) ?_
        exact g_iret C h1 hr dX4_minds_44 (Nat.le_of_ble_eq_true rfl) (Nat.le_of_ble_eq_true rfl) rfl (by have hn_ : ¬ miG S (nI j) y z w := fun h => c_40 (by rw [← hS0]; exact h.2.2.2); rw [if_neg hn_, if_neg (fun h => hn_ h.1)]; exact ⟨rfl, hG, rS⟩)

