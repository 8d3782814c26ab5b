set_option maxRecDepth 100000 in
set_option maxHeartbeats 4000000 in
theorem k_itemN (l : Launch) (D : va_G) (q : Nat → ClassId) (tt : Nat → Nat) (B : Nat → Nat → Nat) (o : OC) (h1 : HC) (h2 : HC) (h3 : HC) (t : TC) (g : GC) (S : Nat → Int32) (N : Nat) (x : Int32) (y : Int32) (z : Int32) (hG : Gd S N) (rS : HR S N h1) (hno : ∀ j, j < 4 → x = nI j → (o_sheets o) j = none) : MI l D q tt yX4_item wsX4_item ({ frames := 2, cells := 0, slots := 0, locals := 42 } : Room) [.ref ((B 0) 0), .int x, .int y, .int z] (ow q B o ++ (hw q (B 1) h1 ++ (hw q (B 2) h2 ++ (hw q (B 3) h3 ++ (tw q (B 4) t ++ (sw q (B 5) g)))))) (fun (r : Int32) (u : Unit) => r = if (0 ≤ x ∧ x ≤ 3) ∧ (0 ≤ y ∧ y ≤ 3) then -11 else -1) (fun (_ : Unit) => (ow q B o ++ (hw q (B 1) h1 ++ (hw q (B 2) h2 ++ (hw q (B 3) h3 ++ (tw q (B 4) t ++ (sw q (B 5) g))))))) 0 0 := by
  refine MI.of RX4 [(0, .ref ((B 0) 0)), (1, .int x), (2, .int y), (3, .int z)] (by decide) rfl rfl (Nat.le_of_ble_eq_true rfl) rfl ?_
  intro p e s m args below meth c A C hr hnm
  have w_0 : ∀ w ∈ u_ws RX4 TX4 11, w ∈ wsX4_item := by decide +kernel
  have w_1 : Cond.fieldLink RX4 50 (TX4 8).1 (TX4 8).2.1 (TX4 8).2.2.1 ∈ wsX4_item := by decide +kernel
  have h8 := hG.le
  have hS0 := hG.n
  refine g_iloadn C dX4_item_0 1 rfl rfl ?_
  refine g_call0i C (rd_S C (k_X4_isPlace l D q tt x ) gX4_item_X4_isPlace rfl rfl rfl 1 ok_X4_isPlace (rest := []) rfl rfl (Nat.le_of_ble_eq_true rfl) dX4_item_1 ⟨(Nat.le_of_ble_eq_true rfl), (Nat.le_of_ble_eq_true rfl)⟩ ⟨(Nat.le_of_ble_eq_true rfl), (Nat.le_of_ble_eq_true rfl)⟩) (fun _ => rfl) (fun r_1 _ h_1 => ?_)
  obtain rfl := h_1
  refine g_ifeqE C 16 dX4_item_4 rfl rfl (fun c_4 => ?_) (fun c_4 => ?_)
  · refine g_iconst C (-1) dX4_item_16 (by decide) ?_
    exact g_iret C () hr dX4_item_17 (Nat.le_of_ble_eq_true rfl) (Nat.le_of_ble_eq_true rfl) rfl (by rw [if_neg (fun h => c_4 h.1)])
  · refine g_iloadn C dX4_item_7 2 rfl rfl ?_
    refine g_iconst C 0 dX4_item_8 (by decide) ?_
    refine g_iconst C 3 dX4_item_9 (by decide) ?_
    refine g_call0i C (rd_S C (k_X4_within l D q tt y 0 3 ) gX4_item_X4_within rfl rfl rfl 3 ok_X4_within (rest := []) rfl rfl (Nat.le_of_ble_eq_true rfl) dX4_item_10 ⟨(Nat.le_of_ble_eq_true rfl), (Nat.le_of_ble_eq_true rfl)⟩ ⟨(Nat.le_of_ble_eq_true rfl), (Nat.le_of_ble_eq_true rfl)⟩) (fun _ => rfl) (fun r_10 _ h_10 => ?_)
    obtain rfl := h_10
    refine g_ifneE C 18 dX4_item_13 rfl rfl (fun c_13 => ?_) (fun c_13 => ?_)
    · obtain ⟨j, hj, ej, ec⟩ := ix_le (n := 3) (by omega) c_4
      refine g_aloadn C dX4_item_18 0 rfl rfl ?_
      refine g_get C fx4 w_0 0 8 (v := .ref ((B 0) 2)) rfl (by decide) w_1 rfl dX4_item_19 ?_
      refine g_iloadn C dX4_item_22 1 rfl rfl ?_
      refine g_topci (nI j) (ej) ?_
      refine g_aldN C 2 (j) (f := (o_sheets o)) rfl rfl (by omega) (by decide) (hno j (by omega) ej) dX4_item_23 ?_
      refine g_astoreN C [(4, .null), (0, .ref ((B 0) 0)), (1, .int x), (2, .int y), (3, .int z)] dX4_item_24 (by decide) rfl ?_
      refine g_aloadN C dX4_item_26 0 rfl ?_
      refine g_ifnonnullN C dX4_item_28 ?_
      refine g_bipush C (-11) dX4_item_31 (by decide) ?_
      exact g_iret C () hr dX4_item_33 (Nat.le_of_ble_eq_true rfl) (Nat.le_of_ble_eq_true rfl) rfl (by rw [if_pos ⟨c_4, c_13⟩])
    · refine g_iconst C (-1) dX4_item_16 (by decide) ?_
      exact g_iret C () hr dX4_item_17 (Nat.le_of_ble_eq_true rfl) (Nat.le_of_ble_eq_true rfl) rfl (by rw [if_neg (fun h => c_13 h.2)])

