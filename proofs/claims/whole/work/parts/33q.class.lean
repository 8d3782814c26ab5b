set_option maxRecDepth 100000 in
set_option maxHeartbeats 4000000 in
theorem k_fitsS (l : Launch) (D : va_G) (q : Nat → ClassId) (tt : Nat → Nat) (B : Nat → Nat → Nat) (o : OC) (h1 : HC) (h2 : HC) (h3 : HC) (t : TC) (g : GC) (S : Nat → Int32) (N : Nat) (xa : Nat) (ya : Nat) (so : Int32) (n : Nat) (f : Nat → Int64) (g_ : Nat → Int32) (j : Nat) (y : Int32) (z : Int32) (hG : Gd S N) (rS : HR S N h1) (hn : n ≤ 40) (hj : j < 4) (hsome : (o_sheets o) j = some xa) (hf : ∀ k, k < n → f k = (g_ k).toInt64) : MI l D q tt yX4_fits wsX4_fits ({ frames := 5, cells := 0, slots := 0, locals := 127 } : Room) [.ref ((B 0) 0), .int (nI j), .int y, .int z] (ow q B o ++ (hw q (B 1) h1 ++ (hw q (B 2) h2 ++ (hw q (B 3) h3 ++ (tw q (B 4) t ++ (sw q (B 5) g ++ (([(xa, .inr (1, [.int so, .ref ya]))] : va_W) ++ (([(ya, aJ (q 3) n f)] : va_W))))))))) (fun (r : Int32) (u : HC) => r = if fiG S (nI j) y z then R_fiC S g_ N n y z else -1) (fun u => (ow q B o ++ (hw q (B 1) h1 ++ (hw q (B 2) u ++ (hw q (B 3) h3 ++ (tw q (B 4) t ++ (sw q (B 5) g ++ (([(xa, .inr (1, [.int so, .ref ya]))] : va_W) ++ (([(ya, aJ (q 3) n f)] : va_W)))))))))) 0 0 := by
  refine MI.of RX4 [(0, .ref ((B 0) 0)), (1, .int (nI j)), (2, .int y), (3, .int z)] (by decide) rfl rfl (Nat.le_of_ble_eq_true rfl) rfl ?_
  intro p e s m args below meth c A C hr hnm
  have w_0 : ∀ w ∈ u_ws RX4 TX4 11, w ∈ wsX4_fits := by decide +kernel
  have w_1 : Cond.fieldLink RX4 10 (TX4 0).1 (TX4 0).2.1 (TX4 0).2.2.1 ∈ wsX4_fits := by decide +kernel
  have w_2 : Cond.fieldLink RX4 50 (TX4 8).1 (TX4 8).2.1 (TX4 8).2.2.1 ∈ wsX4_fits := by decide +kernel
  have h8 := hG.le
  have hS0 := hG.n
  refine g_iloadn C dX4_fits_0 1 rfl rfl ?_
  refine g_call0i C (rd_S C (k_X4_isPlace l D q tt (nI j) ) gX4_fits_X4_isPlace rfl rfl rfl 1 ok_X4_isPlace (rest := []) rfl rfl (Nat.le_of_ble_eq_true rfl) dX4_fits_1 ⟨(Nat.le_of_ble_eq_true rfl), (Nat.le_of_ble_eq_true rfl)⟩ ⟨(Nat.le_of_ble_eq_true rfl), (Nat.le_of_ble_eq_true rfl)⟩) (fun _ => rfl) (fun r_1 _ h_1 => ?_)
  obtain rfl := h_1
  refine g_topci 1 (bI_t ⟨nI_pos' (by omega), nI_le (b := 3) (by omega) (by omega)⟩) ?_
  refine g_if_eqF C 27 dX4_fits_4 rfl (by decide) ?_
  refine g_aloadn C dX4_fits_7 0 rfl rfl ?_
  refine g_get C fx4 w_0 0 0 (v := .ref ((B 1) 0)) rfl (by decide) w_1 rfl dX4_fits_8 ?_
  refine g_iloadn C dX4_fits_11 2 rfl rfl ?_
  refine g_callWi (w1 := (ow q B o ++ (hw q (B 1) h1 ++ (hw q (B 2) h2 ++ (hw q (B 3) h3 ++ (tw q (B 4) t ++ (sw q (B 5) g ++ (([(xa, .inr (1, [.int so, .ref ya]))] : va_W) ++ (([(ya, aJ (q 3) n f)] : va_W)))))))))) (wr := ([0, 1, 2, 3, 4, 13, 14, 15, 16, 17, 18, 19, 20, 21, 22, 23, 24, 25, 26, 27, 28, 29, 30, 31, 32, 33, 34] : List Nat).filterMap (fun i => (ow q B o ++ (hw q (B 1) h1 ++ (hw q (B 2) h2 ++ (hw q (B 3) h3 ++ (tw q (B 4) t ++ (sw q (B 5) g ++ (([(xa, .inr (1, [.int so, .ref ya]))] : va_W) ++ (([(ya, aJ (q 3) n f)] : va_W)))))))))[i]?)) (isC := [5, 6, 7, 8, 9, 10, 11, 12]) (isR := [0, 1, 2, 3, 4, 13, 14, 15, 16, 17, 18, 19, 20, 21, 22, 23, 24, 25, 26, 27, 28, 29, 30, 31, 32, 33, 34]) (pm := [0, 1, 2, 3, 4, 27, 28, 29, 30, 31, 32, 33, 34, 5, 6, 7, 8, 9, 10, 11, 12, 13, 14, 15, 16, 17, 18, 19, 20, 21, 22, 23, 24, 25, 26]) (w1' := (fun _ => (ow q B o ++ (hw q (B 1) h1 ++ (hw q (B 2) h2 ++ (hw q (B 3) h3 ++ (tw q (B 4) t ++ (sw q (B 5) g ++ (([(xa, .inr (1, [.int so, .ref ya]))] : va_W) ++ (([(ya, aJ (q 3) n f)] : va_W))))))))))) C (rd_V C (k_X0_has l D q tt (B 1) h1 S N y (by first | assumption | omega) (by first | assumption | omega)) gX4_fits_X0_has rfl rfl rfl 1 ok_X0_has rfl 0 rfl rfl (rest := []) rfl rfl (Nat.le_of_ble_eq_true rfl) dX4_fits_12 ⟨(Nat.le_of_ble_eq_true rfl), (Nat.le_of_ble_eq_true rfl)⟩ ⟨(Nat.le_of_ble_eq_true rfl), (Nat.le_of_ble_eq_true rfl)⟩) rfl rfl rfl (fun _ => rfl) rfl (fun r_12 _ h_12 => ?_)
  obtain rfl := h_12
  refine g_ifeqE C 27 dX4_fits_15 rfl rfl (fun c_15 => ?_) (fun c_15 => ?_)
  · refine g_iconst C (-1) dX4_fits_27 (by decide) ?_
    exact g_iret C h2 hr dX4_fits_28 (Nat.le_of_ble_eq_true rfl) (Nat.le_of_ble_eq_true rfl) rfl (by have hn_ : ¬ fiG S (nI j) y z := fun h => c_15 (by rw [← hS0]; exact h.2.1); rw [if_neg hn_])
  · refine g_iloadn C dX4_fits_18 3 rfl rfl ?_
    refine g_iconst C 0 dX4_fits_19 (by decide) ?_
    refine g_iconst C 1 dX4_fits_20 (by decide) ?_
    refine g_call0i C (rd_S C (k_X4_within l D q tt z 0 1 ) gX4_fits_X4_within rfl rfl rfl 3 ok_X4_within (rest := []) rfl rfl (Nat.le_of_ble_eq_true rfl) dX4_fits_21 ⟨(Nat.le_of_ble_eq_true rfl), (Nat.le_of_ble_eq_true rfl)⟩ ⟨(Nat.le_of_ble_eq_true rfl), (Nat.le_of_ble_eq_true rfl)⟩) (fun _ => rfl) (fun r_21 _ h_21 => ?_)
    obtain rfl := h_21
    refine g_ifneE C 29 dX4_fits_24 rfl rfl (fun c_24 => ?_) (fun c_24 => ?_)
    · obtain ⟨d, hd, ed, ed2⟩ := ix_lt (by omega) c_15
      refine g_aloadn C dX4_fits_29 0 rfl rfl ?_
      refine g_get C fx4 w_0 0 8 (v := .ref ((B 0) 2)) rfl (by decide) w_2 rfl dX4_fits_30 ?_
      refine g_iloadn C dX4_fits_33 1 rfl rfl ?_
      refine g_aldS C 2 (j) (f := (o_sheets o)) rfl rfl (by omega) (by decide) (y := xa) (hsome) dX4_fits_34 ?_
      refine g_astore C [(4, .ref xa), (0, .ref ((B 0) 0)), (1, .int (nI j)), (2, .int y), (3, .int z)] dX4_fits_35 (by decide) rfl ?_
      refine g_aload C dX4_fits_37 0 rfl ?_
      refine g_ifnonnull C 45 dX4_fits_39 rfl ?_
      refine g_iconst C 0 dX4_fits_45 (by decide) ?_
      refine g_istore C [(5, .int 0), (4, .ref xa), (0, .ref ((B 0) 0)), (1, .int (nI j)), (2, .int y), (3, .int z)] dX4_fits_46 (by decide) rfl ?_
      refine g_bipush C (-3) dX4_fits_48 (by decide) ?_
      refine g_istore C [(6, .int (-3)), (5, .int 0), (4, .ref xa), (0, .ref ((B 0) 0)), (1, .int (nI j)), (2, .int y), (3, .int z)] dX4_fits_50 (by decide) rfl ?_
      refine g_bipush C 9 dX4_fits_52 (by decide) ?_
      refine g_topci (eaK 0) (rfl) ?_
      refine g_istore C [(7, .int (eaK 0)), (6, .int (-3)), (5, .int 0), (4, .ref xa), (0, .ref ((B 0) 0)), (1, .int (nI j)), (2, .int y), (3, .int z)] dX4_fits_54 (by decide) rfl ?_
      have J_56 : ∀ (fu : Nat) (i : Nat) (k : HC), 10 - i < fu → (i ≤ 10) → G p l e ({ frames := 5, cells := 0, slots := 0, locals := 127 } : Room) s m args below meth c 8 D A (MQ below (va_Qi (fun (r : Int32) (u : HC) => r = if fiG S (nI j) y z then R_fiC S g_ N n y z else -1) (Bw D A (fun u => (ow q B o ++ (hw q (B 1) h1 ++ (hw q (B 2) u ++ (hw q (B 3) h3 ++ (tw q (B 4) t ++ (sw q (B 5) g ++ (([(xa, .inr (1, [.int so, .ref ya]))] : va_W) ++ (([(ya, aJ (q 3) n f)] : va_W))))))))))) A) args s 0 0 A) 56 [(0, .ref ((B 0) 0)), (1, .int (nI j)), (2, .int y), (3, .int z), (4, .ref xa), (5, .int ((ftL S g_ N d n i).1)), (6, .int ((ftL S g_ N d n i).2)), (7, .int (eaK i))] [] (ow q B o ++ (hw q (B 1) h1 ++ (hw q (B 2) k ++ (hw q (B 3) h3 ++ (tw q (B 4) t ++ (sw q (B 5) g ++ (([(xa, .inr (1, [.int so, .ref ya]))] : va_W) ++ (([(ya, aJ (q 3) n f)] : va_W))))))))) 0 0 := by
        intro fu
        induction fu with
        | zero =>
          intro i k hfu
          exact absurd hfu (Nat.not_lt_zero _)
        | succ fu ih =>
          intro i k hfu hi
          refine g_iload C dX4_fits_56 7 rfl ?_
          refine g_if_lt C 86 dX4_fits_58 rfl (fun c_58 => ?_) (fun c_58 => ?_)
          · refine g_iloadn C dX4_fits_86 3 rfl rfl ?_
            refine g_if_ne C 95 dX4_fits_87 rfl (fun c_87 => ?_) (fun c_87 => ?_)
            · refine g_iload C dX4_fits_95 6 rfl ?_
              exact g_iret C k hr dX4_fits_97 (Nat.le_of_ble_eq_true rfl) (Nat.le_of_ble_eq_true rfl) rfl (by have hg_ : fiG S (nI j) y z := ⟨⟨nI_pos' (by omega), nI_le (b := 3) (by omega) (by omega)⟩, by rw [hS0]; exact c_15, c_24⟩; rw [if_pos hg_]; unfold R_fiC; rw [if_neg c_87, ed2, show 10 = i from ((ea_lt i (by omega)).mp c_58).symm])
            · refine g_iload C dX4_fits_90 5 rfl ?_
              refine g_goto C 97 dX4_fits_92 rfl ?_
              exact g_iret C k hr dX4_fits_97 (Nat.le_of_ble_eq_true rfl) (Nat.le_of_ble_eq_true rfl) rfl (by have hg_ : fiG S (nI j) y z := ⟨⟨nI_pos' (by omega), nI_le (b := 3) (by omega) (by omega)⟩, by rw [hS0]; exact c_15, c_24⟩; rw [if_pos hg_]; unfold R_fiC; rw [if_pos c_87, ed2, show 10 = i from ((ea_lt i (by omega)).mp c_58).symm])
          · have hi10 : i < 10 := by have h_ : ¬ i = 10 := (fun z_ => c_58 ((ea_lt i (by omega)).mpr z_)); omega
            refine g_aloadn C dX4_fits_61 0 rfl rfl ?_
            refine g_iloadn C dX4_fits_62 2 rfl rfl ?_
            refine g_topci (nI d) (ed) ?_
            refine g_iload C dX4_fits_63 7 rfl ?_
            refine g_topci (nI (9 - i)) ((ea_st i hi10).2.1) ?_
            refine g_aload C dX4_fits_65 4 rfl ?_
            refine g_callAi C (rd_V C (k_X4_earFits l D q tt B o h1 k h3 t g S N xa ya so n f g_ d (9 - i) (by first | assumption | omega) (by first | assumption | omega) (by first | assumption | omega) (by first | assumption | omega) (by first | assumption | omega)) gX4_fits_X4_earFits rfl rfl rfl 3 ok_X4_earFits rfl 0 rfl rfl (rest := []) rfl rfl (Nat.le_of_ble_eq_true rfl) dX4_fits_67 ⟨(Nat.le_of_ble_eq_true rfl), (Nat.le_of_ble_eq_true rfl)⟩ ⟨(Nat.le_of_ble_eq_true rfl), (Nat.le_of_ble_eq_true rfl)⟩) (fun r_67 u_67 h_67 => ?_)
            obtain rfl := h_67
            refine g_ifeqE C 80 dX4_fits_70 rfl rfl (fun c_70 => ?_) (fun c_70 => ?_)
            · refine g_lvc 5 (lv' := [(0, .ref ((B 0) 0)), (1, .int (nI j)), (2, .int y), (3, .int z), (4, .ref xa), (5, .int ((ftL S g_ N d n (i + 1)).1)), (6, .int ((ftL S g_ N d n i).2)), (7, .int (eaK i))]) (by rw [show ((ftL S g_ N d n i).1) = ((ftL S g_ N d n (i + 1)).1) from by rw [ft_n c_70]]) ?_
              refine g_lvc 6 (lv' := [(0, .ref ((B 0) 0)), (1, .int (nI j)), (2, .int y), (3, .int z), (4, .ref xa), (5, .int ((ftL S g_ N d n (i + 1)).1)), (6, .int ((ftL S g_ N d n (i + 1)).2)), (7, .int (eaK i))]) (by rw [show ((ftL S g_ N d n i).2) = ((ftL S g_ N d n (i + 1)).2) from by rw [ft_n c_70]]) ?_
              refine g_iinc C (eaK (i + 1)) [(7, .int (eaK (i + 1))), (0, .ref ((B 0) 0)), (1, .int (nI j)), (2, .int y), (3, .int z), (4, .ref xa), (5, .int ((ftL S g_ N d n (i + 1)).1)), (6, .int ((ftL S g_ N d n (i + 1)).2))] dX4_fits_80 7 rfl (ea_st i hi10).1 (by decide) rfl ?_
              refine g_goto C 56 dX4_fits_83 rfl ?_
              refine g_sub [1, 2, 3, 4, 5, 6, 7, 0] (lv' := [(0, .ref ((B 0) 0)), (1, .int (nI j)), (2, .int y), (3, .int z), (4, .ref xa), (5, .int ((ftL S g_ N d n (i + 1)).1)), (6, .int ((ftL S g_ N d n (i + 1)).2)), (7, .int (eaK (i + 1)))]) rfl ?_
              exact ih ((i + 1)) (u_67) (by omega) (by first | assumption | omega)
            · refine g_iinc C ((ftL S g_ N d n (i + 1)).1) [(5, .int ((ftL S g_ N d n (i + 1)).1)), (0, .ref ((B 0) 0)), (1, .int (nI j)), (2, .int y), (3, .int z), (4, .ref xa), (6, .int ((ftL S g_ N d n i).2)), (7, .int (eaK i))] dX4_fits_73 5 rfl (by rw [ft_y c_70]; rfl) (by decide) rfl ?_
              refine g_iload C dX4_fits_76 7 rfl ?_
              refine g_topci ((ftL S g_ N d n (i + 1)).2) (by rw [ft_y c_70]; exact (ea_st i hi10).2.1) ?_
              refine g_istore C [(6, .int ((ftL S g_ N d n (i + 1)).2)), (5, .int ((ftL S g_ N d n (i + 1)).1)), (0, .ref ((B 0) 0)), (1, .int (nI j)), (2, .int y), (3, .int z), (4, .ref xa), (7, .int (eaK i))] dX4_fits_78 (by decide) rfl ?_
              refine g_iinc C (eaK (i + 1)) [(7, .int (eaK (i + 1))), (6, .int ((ftL S g_ N d n (i + 1)).2)), (5, .int ((ftL S g_ N d n (i + 1)).1)), (0, .ref ((B 0) 0)), (1, .int (nI j)), (2, .int y), (3, .int z), (4, .ref xa)] dX4_fits_80 7 rfl (ea_st i hi10).1 (by decide) rfl ?_
              refine g_goto C 56 dX4_fits_83 rfl ?_
              refine g_sub [3, 4, 5, 6, 7, 2, 1, 0] (lv' := [(0, .ref ((B 0) 0)), (1, .int (nI j)), (2, .int y), (3, .int z), (4, .ref xa), (5, .int ((ftL S g_ N d n (i + 1)).1)), (6, .int ((ftL S g_ N d n (i + 1)).2)), (7, .int (eaK (i + 1)))]) rfl ?_
              exact ih ((i + 1)) (u_67) (by omega) (by first | assumption | omega)
      refine g_sub [4, 5, 6, 7, 3, 2, 1, 0] (lv' := [(0, .ref ((B 0) 0)), (1, .int (nI j)), (2, .int y), (3, .int z), (4, .ref xa), (5, .int 0), (6, .int (-3)), (7, .int (eaK 0))]) rfl ?_
      exact J_56 _ (0) (h2) (Nat.lt_succ_self _) (by first | assumption | omega)
    · refine g_iconst C (-1) dX4_fits_27 (by decide) ?_
      exact g_iret C h2 hr dX4_fits_28 (Nat.le_of_ble_eq_true rfl) (Nat.le_of_ble_eq_true rfl) rfl (by have hn_ : ¬ fiG S (nI j) y z := fun h => c_24 h.2.2; rw [if_neg hn_])

