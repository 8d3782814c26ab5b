set_option maxRecDepth 100000 in
set_option maxHeartbeats 4000000 in
theorem k_itemS (l : Launch) (D : va_G) (q : Nat → ClassId) (tt : Nat → Nat) (B : Nat → Nat → Nat) (o : OC) (h1 : HC) (h2 : HC) (h3 : HC) (t : TC) (g : GC) (S : Nat → Int32) (N : Nat) (xa : Nat) (ya : Nat) (so : Int32) (n : Nat) (f : Nat → Int64) (g_ : Nat → Int32) (j : Nat) (y : Int32) (z : Int32) (hG : Gd S N) (rS : HR S N h1) (hn : n ≤ 40) (hj : j < 4) (hsome : (o_sheets o) j = some xa) (hf : ∀ k, k < n → f k = (g_ k).toInt64) : MI l D q tt yX4_item wsX4_item ({ frames := 2, cells := 0, slots := 0, locals := 42 } : Room) [.ref ((B 0) 0), .int (nI j), .int y, .int z] (ow q B o ++ (hw q (B 1) h1 ++ (hw q (B 2) h2 ++ (hw q (B 3) h3 ++ (tw q (B 4) t ++ (sw q (B 5) g ++ (([(xa, .inr (1, [.int so, .ref ya]))] : va_W) ++ (([(ya, aJ (q 3) n f)] : va_W))))))))) (fun (r : Int32) (u : Unit) => r = if 0 ≤ y ∧ y ≤ 3 then (if so = y then (if 0 ≤ z ∧ z ≤ nI n - 1 then g_ z.toNatClampNeg else -12) else -13) else -1) (fun (_ : Unit) => (ow q B o ++ (hw q (B 1) h1 ++ (hw q (B 2) h2 ++ (hw q (B 3) h3 ++ (tw q (B 4) t ++ (sw q (B 5) g ++ (([(xa, .inr (1, [.int so, .ref ya]))] : va_W) ++ (([(ya, aJ (q 3) n f)] : va_W)))))))))) 0 0 := by
  refine MI.of RX4 [(0, .ref ((B 0) 0)), (1, .int (nI j)), (2, .int y), (3, .int z)] (by decide) rfl rfl (Nat.le_of_ble_eq_true rfl) rfl ?_
  intro p e s m args below meth c A C hr hnm
  have w_0 : ∀ w ∈ u_ws RX4 TX4 11, w ∈ wsX4_item := by decide +kernel
  have w_1 : Cond.fieldLink RX4 50 (TX4 8).1 (TX4 8).2.1 (TX4 8).2.2.1 ∈ wsX4_item := by decide +kernel
  have w_2 : ∀ w ∈ u_ws RX1 TX1 2, w ∈ wsX4_item := by decide +kernel
  have w_3 : Cond.fieldLink RX4 235 (TX1 0).1 (TX1 0).2.1 (TX1 0).2.2.1 ∈ wsX4_item := by decide +kernel
  have w_4 : Cond.fieldLink RX4 213 (TX1 1).1 (TX1 1).2.1 (TX1 1).2.2.1 ∈ wsX4_item := by decide +kernel
  have h8 := hG.le
  have hS0 := hG.n
  refine g_iloadn C dX4_item_0 1 rfl rfl ?_
  refine g_call0i C (rd_S C (k_X4_isPlace l D q tt (nI j) ) gX4_item_X4_isPlace rfl rfl rfl 1 ok_X4_isPlace (rest := []) rfl rfl (Nat.le_of_ble_eq_true rfl) dX4_item_1 ⟨(Nat.le_of_ble_eq_true rfl), (Nat.le_of_ble_eq_true rfl)⟩ ⟨(Nat.le_of_ble_eq_true rfl), (Nat.le_of_ble_eq_true rfl)⟩) (fun _ => rfl) (fun r_1 _ h_1 => ?_)
  obtain rfl := h_1
  refine g_topci 1 (bI_t ⟨nI_pos' (by omega), nI_le (b := 3) (by omega) (by omega)⟩) ?_
  refine g_if_eqF C 16 dX4_item_4 rfl (by decide) ?_
  refine g_iloadn C dX4_item_7 2 rfl rfl ?_
  refine g_iconst C 0 dX4_item_8 (by decide) ?_
  refine g_iconst C 3 dX4_item_9 (by decide) ?_
  refine g_call0i C (rd_S C (k_X4_within l D q tt y 0 3 ) gX4_item_X4_within rfl rfl rfl 3 ok_X4_within (rest := []) rfl rfl (Nat.le_of_ble_eq_true rfl) dX4_item_10 ⟨(Nat.le_of_ble_eq_true rfl), (Nat.le_of_ble_eq_true rfl)⟩ ⟨(Nat.le_of_ble_eq_true rfl), (Nat.le_of_ble_eq_true rfl)⟩) (fun _ => rfl) (fun r_10 _ h_10 => ?_)
  obtain rfl := h_10
  refine g_ifneE C 18 dX4_item_13 rfl rfl (fun c_13 => ?_) (fun c_13 => ?_)
  · refine g_aloadn C dX4_item_18 0 rfl rfl ?_
    refine g_get C fx4 w_0 0 8 (v := .ref ((B 0) 2)) rfl (by decide) w_1 rfl dX4_item_19 ?_
    refine g_iloadn C dX4_item_22 1 rfl rfl ?_
    refine g_aldS C 2 (j) (f := (o_sheets o)) rfl rfl (by omega) (by decide) (y := xa) (hsome) dX4_item_23 ?_
    refine g_astore C [(4, .ref xa), (0, .ref ((B 0) 0)), (1, .int (nI j)), (2, .int y), (3, .int z)] dX4_item_24 (by decide) rfl ?_
    refine g_aload C dX4_item_26 0 rfl ?_
    refine g_ifnonnull C 34 dX4_item_28 rfl ?_
    refine g_aload C dX4_item_34 0 rfl ?_
    refine g_get C fx1 w_2 33 0 (v := .int so) rfl (by decide) w_3 rfl dX4_item_36 ?_
    refine g_iloadn C dX4_item_39 3 rfl rfl ?_
    refine g_icmp_eq C 46 dX4_item_40 rfl (fun c_40 => ?_) (fun c_40 => ?_)
    · refine g_iloadn C dX4_item_46 4 rfl rfl ?_
      refine g_iconst C 0 dX4_item_47 (by decide) ?_
      refine g_aload C dX4_item_48 0 rfl ?_
      refine g_get C fx1 w_2 33 1 (v := .ref ya) rfl (by decide) w_4 rfl dX4_item_50 ?_
      refine g_alen C 34 (nI n) rfl (t0 := 3) rfl rfl dX4_item_53 ?_
      refine g_iconst C 1 dX4_item_54 (by decide) ?_
      refine g_isub C dX4_item_55 ?_
      refine g_call0i C (rd_S C (k_X4_within l D q tt z 0 ((nI n) - 1) ) gX4_item_X4_within rfl rfl rfl 3 ok_X4_within (rest := []) rfl rfl (Nat.le_of_ble_eq_true rfl) dX4_item_56 ⟨(Nat.le_of_ble_eq_true rfl), (Nat.le_of_ble_eq_true rfl)⟩ ⟨(Nat.le_of_ble_eq_true rfl), (Nat.le_of_ble_eq_true rfl)⟩) (fun _ => rfl) (fun r_56 _ h_56 => ?_)
      obtain rfl := h_56
      refine g_ifneE C 65 dX4_item_59 rfl rfl (fun c_59 => ?_) (fun c_59 => ?_)
      · have hz_ : 0 ≤ z ∧ z < nI n := ⟨c_59.1, (le_pred2 (by omega)).mp c_59.2⟩
        obtain ⟨i, hi, ei, ei2⟩ := ix_lt (by omega) hz_
        refine g_aload C dX4_item_65 0 rfl ?_
        refine g_get C fx1 w_2 33 1 (v := .ref ya) rfl (by decide) w_4 rfl dX4_item_67 ?_
        refine g_iloadn C dX4_item_70 4 rfl rfl ?_
        refine g_topci (nI i) (ei) ?_
        refine g_lald C 34 (i) (f := f) rfl rfl (by omega) (by omega) dX4_item_71 ?_
        refine g_l2i C dX4_item_72 ?_
        refine g_topci (g_ i) (by rw [hf i hi]; exact Int32.toInt32_toInt64 _) ?_
        exact g_iret C () hr dX4_item_73 (Nat.le_of_ble_eq_true rfl) (Nat.le_of_ble_eq_true rfl) rfl (by rw [if_pos c_13, if_pos c_40, if_pos c_59, ei2])
      · refine g_bipush C (-12) dX4_item_62 (by decide) ?_
        exact g_iret C () hr dX4_item_64 (Nat.le_of_ble_eq_true rfl) (Nat.le_of_ble_eq_true rfl) rfl (by rw [if_pos c_13, if_pos c_40, if_neg c_59])
    · refine g_bipush C (-13) dX4_item_43 (by decide) ?_
      exact g_iret C () hr dX4_item_45 (Nat.le_of_ble_eq_true rfl) (Nat.le_of_ble_eq_true rfl) rfl (by rw [if_pos c_13, if_neg c_40])
  · refine g_iconst C (-1) dX4_item_16 (by decide) ?_
    exact g_iret C () hr dX4_item_17 (Nat.le_of_ble_eq_true rfl) (Nat.le_of_ble_eq_true rfl) rfl (by rw [if_neg c_13])

