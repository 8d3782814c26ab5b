set_option maxRecDepth 100000 in
set_option maxHeartbeats 4000000 in
theorem k_putS (l : Launch) (D : va_G) (q : Nat → ClassId) (tt : Nat → Nat) (B : Nat → Nat → Nat) (o : OC) (h1 : HC) (h2 : HC) (h3 : HC) (t : TC) (g : GC) (S : Nat → Int32) (N : Nat) (xa : Nat) (ya : Nat) (so : Int32) (n : Nat) (f : Nat → Int64) (j : Nat) (y : Int32) (z : Int32) (hG : Gd S N) (rS : HR S N h1) (hn : n ≤ 40) (hj : j < 4) (hsome : (o_sheets o) j = some xa) : MI l D q tt yX4_put wsX4_put ({ frames := 2, cells := 0, slots := 0, locals := 42 } : Room) [.ref ((B 0) 0), .int (nI j), .int y, .int z] (ow q B o ++ (hw q (B 1) h1 ++ (hw q (B 2) h2 ++ (hw q (B 3) h3 ++ (tw q (B 4) t ++ (sw q (B 5) g ++ (([(xa, .inr (1, [.int so, .ref ya]))] : va_W) ++ (([(ya, aJ (q 3) n f)] : va_W))))))))) (fun (r : Int32) (u : Nat → Int64) => r = (if (0 ≤ y ∧ y ≤ nI n - 1) then 1 else -12) ∧ u = (if (0 ≤ y ∧ y ≤ nI n - 1) then vp_updL f y.toNatClampNeg ((nwS so z).toInt64) else f)) (fun u => (ow q B o ++ (hw q (B 1) h1 ++ (hw q (B 2) h2 ++ (hw q (B 3) h3 ++ (tw q (B 4) t ++ (sw q (B 5) g ++ (([(xa, .inr (1, [.int so, .ref ya]))] : va_W) ++ (([(ya, aJ (q 3) n u)] : va_W)))))))))) 0 0 := by
  refine MI.of RX4 [(0, .ref ((B 0) 0)), (1, .int (nI j)), (2, .int y), (3, .int z)] (by decide) rfl rfl (Nat.le_of_ble_eq_true rfl) rfl ?_
  intro p e s m args below meth c A C hr hnm
  have w_0 : ∀ w ∈ u_ws RX4 TX4 11, w ∈ wsX4_put := by decide +kernel
  have w_1 : Cond.fieldLink RX4 50 (TX4 8).1 (TX4 8).2.1 (TX4 8).2.2.1 ∈ wsX4_put := by decide +kernel
  have w_2 : ∀ w ∈ u_ws RX1 TX1 2, w ∈ wsX4_put := by decide +kernel
  have w_3 : Cond.fieldLink RX4 213 (TX1 1).1 (TX1 1).2.1 (TX1 1).2.2.1 ∈ wsX4_put := by decide +kernel
  have h8 := hG.le
  have hS0 := hG.n
  refine g_iloadn C dX4_put_0 1 rfl rfl ?_
  refine g_call0i C (rd_S C (k_X4_isPlace l D q tt (nI j) ) gX4_put_X4_isPlace rfl rfl rfl 1 ok_X4_isPlace (rest := []) rfl rfl (Nat.le_of_ble_eq_true rfl) dX4_put_1 ⟨(Nat.le_of_ble_eq_true rfl), (Nat.le_of_ble_eq_true rfl)⟩ ⟨(Nat.le_of_ble_eq_true rfl), (Nat.le_of_ble_eq_true rfl)⟩) (fun _ => rfl) (fun r_1 _ h_1 => ?_)
  obtain rfl := h_1
  refine g_topci 1 (bI_t ⟨nI_pos' (by omega), nI_le (b := 3) (by omega) (by omega)⟩) ?_
  refine g_if_neT C 9 dX4_put_4 rfl (by decide) ?_
  refine g_aloadn C dX4_put_9 0 rfl rfl ?_
  refine g_get C fx4 w_0 0 8 (v := .ref ((B 0) 2)) rfl (by decide) w_1 rfl dX4_put_10 ?_
  refine g_iloadn C dX4_put_13 1 rfl rfl ?_
  refine g_aldS C 2 (j) (f := (o_sheets o)) rfl rfl (by omega) (by decide) (y := xa) (hsome) dX4_put_14 ?_
  refine g_astore C [(4, .ref xa), (0, .ref ((B 0) 0)), (1, .int (nI j)), (2, .int y), (3, .int z)] dX4_put_15 (by decide) rfl ?_
  refine g_aload C dX4_put_17 0 rfl ?_
  refine g_ifnonnull C 25 dX4_put_19 rfl ?_
  refine g_iloadn C dX4_put_25 3 rfl rfl ?_
  refine g_iconst C 0 dX4_put_26 (by decide) ?_
  refine g_aload C dX4_put_27 0 rfl ?_
  refine g_get C fx1 w_2 33 1 (v := .ref ya) rfl (by decide) w_3 rfl dX4_put_29 ?_
  refine g_alen C 34 (nI n) rfl (t0 := 3) rfl rfl dX4_put_32 ?_
  refine g_iconst C 1 dX4_put_33 (by decide) ?_
  refine g_isub C dX4_put_34 ?_
  refine g_call0i C (rd_S C (k_X4_within l D q tt y 0 ((nI n) - 1) ) gX4_put_X4_within rfl rfl rfl 3 ok_X4_within (rest := []) rfl rfl (Nat.le_of_ble_eq_true rfl) dX4_put_35 ⟨(Nat.le_of_ble_eq_true rfl), (Nat.le_of_ble_eq_true rfl)⟩ ⟨(Nat.le_of_ble_eq_true rfl), (Nat.le_of_ble_eq_true rfl)⟩) (fun _ => rfl) (fun r_35 _ h_35 => ?_)
  obtain rfl := h_35
  refine g_ifneE C 44 dX4_put_38 rfl rfl (fun c_38 => ?_) (fun c_38 => ?_)
  · have hz_ : 0 ≤ y ∧ y < nI n := ⟨c_38.1, (le_pred2 (by omega)).mp c_38.2⟩
    obtain ⟨i, hi, ei, ei2⟩ := ix_lt (by omega) hz_
    refine g_aload C dX4_put_44 0 rfl ?_
    refine g_get C fx1 w_2 33 1 (v := .ref ya) rfl (by decide) w_3 rfl dX4_put_46 ?_
    refine g_iloadn C dX4_put_49 3 rfl rfl ?_
    refine g_topci (nI i) (ei) ?_
    refine g_aload C dX4_put_50 0 rfl ?_
    refine g_iloadn C dX4_put_52 4 rfl rfl ?_
    refine g_callWl (w1 := (ow q B o ++ (hw q (B 1) h1 ++ (hw q (B 2) h2 ++ (hw q (B 3) h3 ++ (tw q (B 4) t ++ (sw q (B 5) g ++ (([(xa, .inr (1, [.int so, .ref ya]))] : va_W) ++ (([(ya, aJ (q 3) n f)] : va_W)))))))))) (wr := ([0, 1, 2, 3, 4, 5, 6, 7, 8, 9, 10, 11, 12, 13, 14, 15, 16, 17, 18, 19, 20, 21, 22, 23, 24, 25, 26, 27, 28, 29, 30, 31, 32, 34] : List Nat).filterMap (fun i => (ow q B o ++ (hw q (B 1) h1 ++ (hw q (B 2) h2 ++ (hw q (B 3) h3 ++ (tw q (B 4) t ++ (sw q (B 5) g ++ (([(xa, .inr (1, [.int so, .ref ya]))] : va_W) ++ (([(ya, aJ (q 3) n f)] : va_W)))))))))[i]?)) (isC := [33]) (isR := [0, 1, 2, 3, 4, 5, 6, 7, 8, 9, 10, 11, 12, 13, 14, 15, 16, 17, 18, 19, 20, 21, 22, 23, 24, 25, 26, 27, 28, 29, 30, 31, 32, 34]) (pm := [0, 1, 2, 3, 4, 5, 6, 7, 8, 9, 10, 11, 12, 13, 14, 15, 16, 17, 18, 19, 20, 21, 22, 23, 24, 25, 26, 27, 28, 29, 30, 31, 32, 34, 33]) (w1' := (fun _ => (ow q B o ++ (hw q (B 1) h1 ++ (hw q (B 2) h2 ++ (hw q (B 3) h3 ++ (tw q (B 4) t ++ (sw q (B 5) g ++ (([(xa, .inr (1, [.int so, .ref ya]))] : va_W) ++ (([(ya, aJ (q 3) n f)] : va_W))))))))))) C (rd_V C (k_X1_narrowed l D q tt xa ya so z ) gX4_put_X1_narrowed rfl rfl rfl 1 ok_X1_narrowed rfl 0 rfl rfl (rest := [.int (nI i), .ref ya]) rfl rfl (Nat.le_of_ble_eq_true rfl) dX4_put_53 ⟨(Nat.le_of_ble_eq_true rfl), (Nat.le_of_ble_eq_true rfl)⟩ ⟨(Nat.le_of_ble_eq_true rfl), (Nat.le_of_ble_eq_true rfl)⟩) rfl rfl rfl (fun _ => rfl) rfl (fun r_53 _ h_53 => ?_)
    obtain rfl := h_53
    refine g_last C 34 (i) (f := f) rfl rfl (by omega) (by omega) dX4_put_56 (ow q B o ++ (hw q (B 1) h1 ++ (hw q (B 2) h2 ++ (hw q (B 3) h3 ++ (tw q (B 4) t ++ (sw q (B 5) g ++ (([(xa, .inr (1, [.int so, .ref ya]))] : va_W) ++ (([(ya, aJ (q 3) n (vp_updL f i ((nwS so z).toInt64)))] : va_W))))))))) rfl ?_
    refine g_iconst C 1 dX4_put_57 (by decide) ?_
    exact g_iret C (vp_updL f i ((nwS so z).toInt64)) hr dX4_put_58 (Nat.le_of_ble_eq_true rfl) (Nat.le_of_ble_eq_true rfl) rfl (by rw [if_pos c_38, if_pos c_38, ei2]; exact ⟨rfl, rfl⟩)
  · refine g_bipush C (-12) dX4_put_41 (by decide) ?_
    exact g_iret C f hr dX4_put_43 (Nat.le_of_ble_eq_true rfl) (Nat.le_of_ble_eq_true rfl) rfl (by rw [if_neg c_38, if_neg c_38]; exact ⟨rfl, rfl⟩)

