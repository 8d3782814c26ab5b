set_option maxRecDepth 100000 in
set_option maxHeartbeats 4000000 in
theorem k_X4_earFits (l : Launch) (D : va_G) (q : Nat → ClassId) (tt : Nat → Nat) (B : Nat → Nat → Nat) (o : OC) (h1 : HC) (h2 : HC) (h3 : HC) (t : TC) (g : GC) (S : Nat → Int32) (N : Nat) (xa : Nat) (ya : Nat) (so : Int32) (n : Nat) (f : Nat → Int64) (g_ : Nat → Int32) (d : Nat) (ea : Nat) (hG : Gd S N) (rS : HR S N h1) (hn : n ≤ 40) (hf : ∀ k, k < n → f k = (g_ k).toInt64) (hd : d < N) : MI l D q tt yX4_earFits wsX4_earFits ({ frames := 4, cells := 0, slots := 0, locals := 101 } : Room) [.ref ((B 0) 0), .int (nI d), .int (nI ea), .ref xa] (ow q B o ++ (hw q (B 1) h1 ++ (hw q (B 2) h2 ++ (hw q (B 3) h3 ++ (tw q (B 4) t ++ (sw q (B 5) g ++ (([(xa, .inr (1, [.int so, .ref ya]))] : va_W) ++ (([(ya, aJ (q 3) n f)] : va_W))))))))) (fun (r : Int32) (u : HC) => r = (bI (tdS (upd S (7 + 5 * d + 2) (nI ea)) g_ N n))) (fun u => (ow q B o ++ (hw q (B 1) h1 ++ (hw q (B 2) u ++ (hw q (B 3) h3 ++ (tw q (B 4) t ++ (sw q (B 5) g ++ (([(xa, .inr (1, [.int so, .ref ya]))] : va_W) ++ (([(ya, aJ (q 3) n f)] : va_W)))))))))) 0 0 := by
  refine MI.of RX4 [(0, .ref ((B 0) 0)), (1, .int (nI d)), (2, .int (nI ea)), (3, .ref xa)] (by decide) rfl rfl (Nat.le_of_ble_eq_true rfl) rfl ?_
  intro p e s m args below meth c A C hr hnm
  have w_0 : ∀ w ∈ u_ws RX4 TX4 11, w ∈ wsX4_earFits := by decide +kernel
  have w_1 : Cond.fieldLink RX4 16 (TX4 1).1 (TX4 1).2.1 (TX4 1).2.2.1 ∈ wsX4_earFits := by decide +kernel
  have w_2 : ∀ w ∈ u_ws RX0 TX0 11, w ∈ wsX4_earFits := by decide +kernel
  have w_3 : Cond.fieldLink RX4 126 (TX0 3).1 (TX0 3).2.1 (TX0 3).2.2.1 ∈ wsX4_earFits := by decide +kernel
  have w_4 : ∀ w ∈ u_ws RX1 TX1 2, w ∈ wsX4_earFits := by decide +kernel
  have w_5 : Cond.fieldLink RX4 213 (TX1 1).1 (TX1 1).2.1 (TX1 1).2.2.1 ∈ wsX4_earFits := by decide +kernel
  have w_6 : Cond.constantLong RX4 217 (-1) ∈ wsX4_earFits := by decide +kernel
  have w_7 : Cond.fieldLink RX4 152 (TX0 6).1 (TX0 6).2.1 (TX0 6).2.2.1 ∈ wsX4_earFits := by decide +kernel
  have h8 := hG.le
  have hS0 := hG.n
  refine g_aloadn C dX4_earFits_0 0 rfl rfl ?_
  refine g_callWv (w1 := (ow q B o ++ (hw q (B 1) h1 ++ (hw q (B 2) h2 ++ (hw q (B 3) h3 ++ (tw q (B 4) t ++ (sw q (B 5) g ++ (([(xa, .inr (1, [.int so, .ref ya]))] : va_W) ++ (([(ya, aJ (q 3) n f)] : va_W)))))))))) (wr := ([33, 34] : List Nat).filterMap (fun i => (ow q B o ++ (hw q (B 1) h1 ++ (hw q (B 2) h2 ++ (hw q (B 3) h3 ++ (tw q (B 4) t ++ (sw q (B 5) g ++ (([(xa, .inr (1, [.int so, .ref ya]))] : va_W) ++ (([(ya, aJ (q 3) n f)] : va_W)))))))))[i]?)) (isC := [0, 1, 2, 3, 4, 5, 6, 7, 8, 9, 10, 11, 12, 13, 14, 15, 16, 17, 18, 19, 20, 21, 22, 23, 24, 25, 26, 27, 28, 29, 30, 31, 32]) (isR := [33, 34]) (pm := [2, 3, 4, 5, 6, 7, 8, 9, 10, 11, 12, 13, 14, 15, 16, 17, 18, 19, 20, 21, 22, 23, 24, 25, 26, 27, 28, 29, 30, 31, 32, 33, 34, 0, 1]) (w1' := (fun u_1 => (ow q B o ++ (hw q (B 1) h1 ++ (hw q (B 2) u_1 ++ (hw q (B 3) h3 ++ (tw q (B 4) t ++ (sw q (B 5) g ++ (([(xa, .inr (1, [.int so, .ref ya]))] : va_W) ++ (([(ya, aJ (q 3) n f)] : va_W))))))))))) C (rd_V C (k_X4_tryFromNow l D q tt B o h1 h2 h3 t g ) gX4_earFits_X4_tryFromNow rfl rfl rfl 0 ok_X4_tryFromNow rfl 0 rfl rfl (rest := []) rfl rfl (Nat.le_of_ble_eq_true rfl) dX4_earFits_1 ⟨(Nat.le_of_ble_eq_true rfl), (Nat.le_of_ble_eq_true rfl)⟩ ⟨(Nat.le_of_ble_eq_true rfl), (Nat.le_of_ble_eq_true rfl)⟩) rfl rfl rfl (fun _ => rfl) rfl (fun u_1 h_1 => ?_)
  have tr_1 := h_1
  refine g_aloadn C dX4_earFits_4 0 rfl rfl ?_
  refine g_get C fx4 w_0 0 1 (v := .ref ((B 2) 0)) rfl (by decide) w_1 rfl dX4_earFits_5 ?_
  refine g_get C fx0 w_2 13 3 (v := .ref ((B 2) 4)) rfl (by decide) w_3 rfl dX4_earFits_8 ?_
  refine g_iloadn C dX4_earFits_11 1 rfl rfl ?_
  refine g_iloadn C dX4_earFits_12 2 rfl rfl ?_
  refine g_iast C 17 (d) (f := (hE u_1)) rfl rfl (by omega) (by decide) dX4_earFits_13 (ow q B o ++ (hw q (B 1) h1 ++ (hw q (B 2) ((hL u_1), (hK u_1), (hP u_1), (upd (hE u_1) d (nI ea)), (hR u_1), (hN u_1), (hC u_1), (hM u_1), (hZ u_1), (hJ u_1), (hH u_1)) ++ (hw q (B 3) h3 ++ (tw q (B 4) t ++ (sw q (B 5) g ++ (([(xa, .inr (1, [.int so, .ref ya]))] : va_W) ++ (([(ya, aJ (q 3) n f)] : va_W))))))))) rfl ?_
  refine g_iconst C 0 dX4_earFits_14 (by decide) ?_
  refine g_istore C [(4, .int 0), (0, .ref ((B 0) 0)), (1, .int (nI d)), (2, .int (nI ea)), (3, .ref xa)] dX4_earFits_15 (by decide) rfl ?_
  have J_17 : ∀ (fu : Nat) (i : Nat) (k : HC), n - i < fu → (i ≤ n) → (HR (gosS (upd S (7 + 5 * d + 2) (nI ea)) N i) N k) → (tdS (upd S (7 + 5 * d + 2) (nI ea)) g_ N i) → G p l e ({ frames := 4, cells := 0, slots := 0, locals := 101 } : Room) s m args below meth c 7 D A (MQ below (va_Qi (fun (r : Int32) (u : HC) => r = (bI (tdS (upd S (7 + 5 * d + 2) (nI ea)) g_ N n))) (Bw D A (fun u => (ow q B o ++ (hw q (B 1) h1 ++ (hw q (B 2) u ++ (hw q (B 3) h3 ++ (tw q (B 4) t ++ (sw q (B 5) g ++ (([(xa, .inr (1, [.int so, .ref ya]))] : va_W) ++ (([(ya, aJ (q 3) n f)] : va_W))))))))))) A) args s 0 0 A) 17 [(0, .ref ((B 0) 0)), (1, .int (nI d)), (2, .int (nI ea)), (3, .ref xa), (4, .int (nI i))] [] (ow q B o ++ (hw q (B 1) h1 ++ (hw q (B 2) k ++ (hw q (B 3) h3 ++ (tw q (B 4) t ++ (sw q (B 5) g ++ (([(xa, .inr (1, [.int so, .ref ya]))] : va_W) ++ (([(ya, aJ (q 3) n f)] : va_W))))))))) 0 0 := by
    intro fu
    induction fu with
    | zero =>
      intro i k hfu
      exact absurd hfu (Nat.not_lt_zero _)
    | succ fu ih =>
      intro i k hfu hi hk ht
      refine g_iload C dX4_earFits_17 4 rfl ?_
      refine g_aloadn C dX4_earFits_19 3 rfl rfl ?_
      refine g_get C fx1 w_4 33 1 (v := .ref ya) rfl (by decide) w_5 rfl dX4_earFits_20 ?_
      refine g_alen C 34 (nI n) rfl (t0 := 3) rfl rfl dX4_earFits_23 ?_
      refine g_icmpN_ge C 78 (i) (n) dX4_earFits_24 rfl (by omega) (by omega) (fun c_24 => ?_) (fun c_24 => ?_)
      · refine g_iconst C 1 dX4_earFits_78 (by decide) ?_
        exact g_zret C k hr rfl dX4_earFits_79 (Nat.le_of_ble_eq_true rfl) (Nat.le_of_ble_eq_true rfl) rfl ((bI_t (by rw [show n = i by omega]; exact ht)).symm)
      · refine g_aloadn C dX4_earFits_27 0 rfl rfl ?_
        refine g_get C fx4 w_0 0 1 (v := .ref ((B 2) 0)) rfl (by decide) w_1 rfl dX4_earFits_28 ?_
        refine g_iconst C 1 dX4_earFits_31 (by decide) ?_
        refine g_callWv (w1 := (ow q B o ++ (hw q (B 1) h1 ++ (hw q (B 2) k ++ (hw q (B 3) h3 ++ (tw q (B 4) t ++ (sw q (B 5) g ++ (([(xa, .inr (1, [.int so, .ref ya]))] : va_W) ++ (([(ya, aJ (q 3) n f)] : va_W)))))))))) (wr := ([0, 1, 2, 3, 4, 5, 6, 7, 8, 9, 10, 11, 12, 21, 22, 23, 24, 25, 26, 27, 28, 29, 30, 31, 32, 33, 34] : List Nat).filterMap (fun i => (ow q B o ++ (hw q (B 1) h1 ++ (hw q (B 2) k ++ (hw q (B 3) h3 ++ (tw q (B 4) t ++ (sw q (B 5) g ++ (([(xa, .inr (1, [.int so, .ref ya]))] : va_W) ++ (([(ya, aJ (q 3) n f)] : va_W)))))))))[i]?)) (isC := [13, 14, 15, 16, 17, 18, 19, 20]) (isR := [0, 1, 2, 3, 4, 5, 6, 7, 8, 9, 10, 11, 12, 21, 22, 23, 24, 25, 26, 27, 28, 29, 30, 31, 32, 33, 34]) (pm := [0, 1, 2, 3, 4, 5, 6, 7, 8, 9, 10, 11, 12, 27, 28, 29, 30, 31, 32, 33, 34, 13, 14, 15, 16, 17, 18, 19, 20, 21, 22, 23, 24, 25, 26]) (w1' := (fun u_32 => (ow q B o ++ (hw q (B 1) h1 ++ (hw q (B 2) u_32 ++ (hw q (B 3) h3 ++ (tw q (B 4) t ++ (sw q (B 5) g ++ (([(xa, .inr (1, [.int so, .ref ya]))] : va_W) ++ (([(ya, aJ (q 3) n f)] : va_W))))))))))) C (rd_V C (k_X0_pass l D q tt (B 2) k (gosS (upd S (7 + 5 * d + 2) (nI ea)) N i) N 1 (hG.w2.gos i) hk (by first | assumption | omega)) gX4_earFits_X0_pass rfl rfl rfl 1 ok_X0_pass rfl 0 rfl rfl (rest := []) rfl rfl (Nat.le_of_ble_eq_true rfl) dX4_earFits_32 ⟨(Nat.le_of_ble_eq_true rfl), (Nat.le_of_ble_eq_true rfl)⟩ ⟨(Nat.le_of_ble_eq_true rfl), (Nat.le_of_ble_eq_true rfl)⟩) rfl rfl rfl (fun _ => rfl) rfl (fun u_32 h_32 => ?_)
        have rS_32 := h_32
        refine g_aloadn C dX4_earFits_35 3 rfl rfl ?_
        refine g_get C fx1 w_4 33 1 (v := .ref ya) rfl (by decide) w_5 rfl dX4_earFits_36 ?_
        refine g_iload C dX4_earFits_39 4 rfl ?_
        refine g_lald C 34 (i) (f := f) rfl rfl (by omega) (by omega) dX4_earFits_41 ?_
        refine g_lstore C [(5, .long (f i)), (0, .ref ((B 0) 0)), (1, .int (nI d)), (2, .int (nI ea)), (3, .ref xa), (4, .int (nI i))] dX4_earFits_42 (by decide) rfl ?_
        refine g_lload C dX4_earFits_44 0 rfl ?_
        refine g_ldc2 C (-1) dX4_earFits_46 w_6 ?_
        refine g_lcmp C dX4_earFits_49 ?_
        refine g_if_eq C 72 dX4_earFits_50 rfl (fun c_50 => ?_) (fun c_50 => ?_)
        · refine g_iinc C (nI (i + 1)) [(4, .int (nI (i + 1))), (5, .long (f i)), (0, .ref ((B 0) 0)), (1, .int (nI d)), (2, .int (nI ea)), (3, .ref xa)] dX4_earFits_72 5 rfl (nI_add i 1) (by decide) rfl ?_
          refine g_goto C 17 dX4_earFits_75 rfl ?_
          refine g_sub [2, 3, 4, 5, 0] (lv' := [(0, .ref ((B 0) 0)), (1, .int (nI d)), (2, .int (nI ea)), (3, .ref xa), (4, .int (nI (i + 1)))]) rfl ?_
          exact ih ((i + 1)) (u_32) (by omega) (by first | assumption | omega) rS_32 (by first | exact td_next ht (Or.inl (td_a (hf i (by omega)) c_50)) | exact td_next ht (Or.inr (td_b (hf i (by omega)) c_67)))
        · refine g_lload C dX4_earFits_53 0 rfl ?_
          refine g_aloadn C dX4_earFits_55 1 rfl rfl ?_
          refine g_get C fx4 w_0 0 1 (v := .ref ((B 2) 0)) rfl (by decide) w_1 rfl dX4_earFits_56 ?_
          refine g_get C fx0 w_2 13 6 (v := .int (hC u_32)) rfl (by decide) w_7 rfl dX4_earFits_59 ?_
          refine g_topci (nI (clN (gosS (upd S (7 + 5 * d + 2) (nI ea)) N (i + 1)) N)) (rS_32.c) ?_
          refine g_call0i C (rd_S C (k_J6_bitCount_0f7a4 l D q tt (clN (gosS (upd S (7 + 5 * d + 2) (nI ea)) N (i + 1)) N) (clN_256 h8)) gX4_earFits_J6_bitCount_0f7a4 rfl rfl rfl 1 ok_J6_bitCount_0f7a4 (rest := [.long (f i)]) rfl rfl (Nat.le_of_ble_eq_true rfl) dX4_earFits_62 ⟨(Nat.le_of_ble_eq_true rfl), (Nat.le_of_ble_eq_true rfl)⟩ ⟨(Nat.le_of_ble_eq_true rfl), (Nat.le_of_ble_eq_true rfl)⟩) (fun _ => rfl) (fun r_62 _ h_62 => ?_)
          obtain rfl := h_62
          refine g_i2l C dX4_earFits_65 ?_
          refine g_lcmp C dX4_earFits_66 ?_
          refine g_if_eq C 72 dX4_earFits_67 rfl (fun c_67 => ?_) (fun c_67 => ?_)
          · refine g_iinc C (nI (i + 1)) [(4, .int (nI (i + 1))), (5, .long (f i)), (0, .ref ((B 0) 0)), (1, .int (nI d)), (2, .int (nI ea)), (3, .ref xa)] dX4_earFits_72 5 rfl (nI_add i 1) (by decide) rfl ?_
            refine g_goto C 17 dX4_earFits_75 rfl ?_
            refine g_sub [2, 3, 4, 5, 0] (lv' := [(0, .ref ((B 0) 0)), (1, .int (nI d)), (2, .int (nI ea)), (3, .ref xa), (4, .int (nI (i + 1)))]) rfl ?_
            exact ih ((i + 1)) (u_32) (by omega) (by first | assumption | omega) rS_32 (by first | exact td_next ht (Or.inl (td_a (hf i (by omega)) c_50)) | exact td_next ht (Or.inr (td_b (hf i (by omega)) c_67)))
          · refine g_iconst C 0 dX4_earFits_70 (by decide) ?_
            exact g_zret C u_32 hr rfl dX4_earFits_71 (Nat.le_of_ble_eq_true rfl) (Nat.le_of_ble_eq_true rfl) rfl ((bI_n (fun h => by rcases h i (by omega) with h_ | h_; exact c_50 (td_a2 (hf i (by omega)) h_); exact c_67 (td_b2 (hf i (by omega)) h_))).symm)
  refine g_sub [1, 2, 3, 4, 0] (lv' := [(0, .ref ((B 0) 0)), (1, .int (nI d)), (2, .int (nI ea)), (3, .ref xa), (4, .int 0)]) rfl ?_
  exact J_17 _ (0) (((hL u_1), (hK u_1), (hP u_1), (upd (hE u_1) d (nI ea)), (hR u_1), (hN u_1), (hC u_1), (hM u_1), (hZ u_1), (hJ u_1), (hH u_1))) (Nat.lt_succ_self _) (by first | assumption | omega) (hr_e (tr_1 S N hG rS) hd) (fun k h => absurd h (Nat.not_lt_zero k))

