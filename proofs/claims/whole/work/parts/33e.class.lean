set_option maxRecDepth 100000 in
set_option maxHeartbeats 4000000 in
theorem k_putN (l : Launch) (D : va_G) (q : Nat → ClassId) (tt : Nat → Nat) (B : Nat → Nat → Nat) (o : OC) (h1 : HC) (h2 : HC) (h3 : HC) (t : TC) (g : GC) (S : Nat → Int32) (N : Nat) (x : Int32) (y : Int32) (z : Int32) (hG : Gd S N) (rS : HR S N h1) (hno : ∀ j, j < 4 → x = nI j → (o_sheets o) j = none) : MI l D q tt yX4_put wsX4_put ({ frames := 2, cells := 0, slots := 0, locals := 42 } : Room) [.ref ((B 0) 0), .int x, .int y, .int z] (ow q B o ++ (hw q (B 1) h1 ++ (hw q (B 2) h2 ++ (hw q (B 3) h3 ++ (tw q (B 4) t ++ (sw q (B 5) g)))))) (fun (r : Int32) (u : Unit) => r = if 0 ≤ x ∧ x ≤ 3 then -11 else -1) (fun (_ : Unit) => (ow q B o ++ (hw q (B 1) h1 ++ (hw q (B 2) h2 ++ (hw q (B 3) h3 ++ (tw q (B 4) t ++ (sw q (B 5) g))))))) 0 0 := by
  refine MI.of RX4 [(0, .ref ((B 0) 0)), (1, .int x), (2, .int y), (3, .int z)] (by decide) rfl rfl (Nat.le_of_ble_eq_true rfl) rfl ?_
  intro p e s m args below meth c A C hr hnm
  have w_0 : ∀ w ∈ u_ws RX4 TX4 11, w ∈ wsX4_put := by decide +kernel
  have w_1 : Cond.fieldLink RX4 50 (TX4 8).1 (TX4 8).2.1 (TX4 8).2.2.1 ∈ wsX4_put := by decide +kernel
  have h8 := hG.le
  have hS0 := hG.n
  refine g_iloadn C dX4_put_0 1 rfl rfl ?_
  refine g_call0i C (rd_S C (k_X4_isPlace l D q tt x ) gX4_put_X4_isPlace rfl rfl rfl 1 ok_X4_isPlace (rest := []) rfl rfl (Nat.le_of_ble_eq_true rfl) dX4_put_1 ⟨(Nat.le_of_ble_eq_true rfl), (Nat.le_of_ble_eq_true rfl)⟩ ⟨(Nat.le_of_ble_eq_true rfl), (Nat.le_of_ble_eq_true rfl)⟩) (fun _ => rfl) (fun r_1 _ h_1 => ?_)
  obtain rfl := h_1
  refine g_ifneE C 9 dX4_put_4 rfl rfl (fun c_4 => ?_) (fun c_4 => ?_)
  · obtain ⟨j, hj, ej, ec⟩ := ix_le (n := 3) (by omega) c_4
    refine g_aloadn C dX4_put_9 0 rfl rfl ?_
    refine g_get C fx4 w_0 0 8 (v := .ref ((B 0) 2)) rfl (by decide) w_1 rfl dX4_put_10 ?_
    refine g_iloadn C dX4_put_13 1 rfl rfl ?_
    refine g_topci (nI j) (ej) ?_
    refine g_aldN C 2 (j) (f := (o_sheets o)) rfl rfl (by omega) (by decide) (hno j (by omega) ej) dX4_put_14 ?_
    refine g_astoreN C [(4, .null), (0, .ref ((B 0) 0)), (1, .int x), (2, .int y), (3, .int z)] dX4_put_15 (by decide) rfl ?_
    refine g_aloadN C dX4_put_17 0 rfl ?_
    refine g_ifnonnullN C dX4_put_19 ?_
    refine g_bipush C (-11) dX4_put_22 (by decide) ?_
    exact g_iret C () hr dX4_put_24 (Nat.le_of_ble_eq_true rfl) (Nat.le_of_ble_eq_true rfl) rfl (by rw [if_pos c_4])
  · refine g_iconst C (-1) dX4_put_7 (by decide) ?_
    exact g_iret C () hr dX4_put_8 (Nat.le_of_ble_eq_true rfl) (Nat.le_of_ble_eq_true rfl) rfl (by rw [if_neg c_4])

