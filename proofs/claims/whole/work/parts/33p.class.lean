set_option maxRecDepth 100000 in
set_option maxHeartbeats 4000000 in
theorem k_fitsN (l : Launch) (D : va_G) (q : Nat → ClassId) (tt : Nat → Nat) (B : Nat → Nat → Nat) (o : OC) (h1 : HC) (h2 : HC) (h3 : HC) (t : TC) (g : GC) (S : Nat → Int32) (N : Nat) (x : Int32) (y : Int32) (z : Int32) (hG : Gd S N) (rS : HR S N h1) (hno : ∀ j, j < 4 → x = nI j → (o_sheets o) j = none) : MI l D q tt yX4_fits wsX4_fits ({ frames := 2, cells := 0, slots := 0, locals := 43 } : Room) [.ref ((B 0) 0), .int x, .int y, .int z] (ow q B o ++ (hw q (B 1) h1 ++ (hw q (B 2) h2 ++ (hw q (B 3) h3 ++ (tw q (B 4) t ++ (sw q (B 5) g)))))) (fun (r : Int32) (u : HC) => r = if fiG S x y z then -11 else -1) (fun u => (ow q B o ++ (hw q (B 1) h1 ++ (hw q (B 2) u ++ (hw q (B 3) h3 ++ (tw q (B 4) t ++ (sw q (B 5) g))))))) 0 0 := by
  refine MI.of RX4 [(0, .ref ((B 0) 0)), (1, .int x), (2, .int y), (3, .int z)] (by decide) rfl rfl (Nat.le_of_ble_eq_true rfl) rfl ?_
  intro p e s m args below meth c A C hr hnm
  have w_0 : ∀ w ∈ u_ws RX4 TX4 11, w ∈ wsX4_fits := by decide +kernel
  have w_1 : Cond.fieldLink RX4 10 (TX4 0).1 (TX4 0).2.1 (TX4 0).2.2.1 ∈ wsX4_fits := by decide +kernel
  have w_2 : Cond.fieldLink RX4 50 (TX4 8).1 (TX4 8).2.1 (TX4 8).2.2.1 ∈ wsX4_fits := by decide +kernel
  have h8 := hG.le
  have hS0 := hG.n
  refine g_iloadn C dX4_fits_0 1 rfl rfl ?_
  refine g_call0i C (rd_S C (k_X4_isPlace l D q tt x ) gX4_fits_X4_isPlace rfl rfl rfl 1 ok_X4_isPlace (rest := []) rfl rfl (Nat.le_of_ble_eq_true rfl) dX4_fits_1 ⟨(Nat.le_of_ble_eq_true rfl), (Nat.le_of_ble_eq_true rfl)⟩ ⟨(Nat.le_of_ble_eq_true rfl), (Nat.le_of_ble_eq_true rfl)⟩) (fun _ => rfl) (fun r_1 _ h_1 => ?_)
  obtain rfl := h_1
  refine g_ifeqE C 27 dX4_fits_4 rfl rfl (fun c_4 => ?_) (fun c_4 => ?_)
  · refine g_iconst C (-1) dX4_fits_27 (by decide) ?_
    exact g_iret C h2 hr dX4_fits_28 (Nat.le_of_ble_eq_true rfl) (Nat.le_of_ble_eq_true rfl) rfl (by have hn_ : ¬ fiG S x y z := fun h => c_4 h.1; rw [if_neg hn_])
  · refine g_aloadn C dX4_fits_7 0 rfl rfl ?_
    refine g_get C fx4 w_0 0 0 (v := .ref ((B 1) 0)) rfl (by decide) w_1 rfl dX4_fits_8 ?_
    refine g_iloadn C dX4_fits_11 2 rfl rfl ?_
    refine g_callWi (w1 := (ow q B o ++ (hw q (B 1) h1 ++ (hw q (B 2) h2 ++ (hw q (B 3) h3 ++ (tw q (B 4) t ++ (sw q (B 5) g))))))) (wr := ([0, 1, 2, 3, 4, 13, 14, 15, 16, 17, 18, 19, 20, 21, 22, 23, 24, 25, 26, 27, 28, 29, 30, 31, 32] : List Nat).filterMap (fun i => (ow q B o ++ (hw q (B 1) h1 ++ (hw q (B 2) h2 ++ (hw q (B 3) h3 ++ (tw q (B 4) t ++ (sw q (B 5) g))))))[i]?)) (isC := [5, 6, 7, 8, 9, 10, 11, 12]) (isR := [0, 1, 2, 3, 4, 13, 14, 15, 16, 17, 18, 19, 20, 21, 22, 23, 24, 25, 26, 27, 28, 29, 30, 31, 32]) (pm := [0, 1, 2, 3, 4, 25, 26, 27, 28, 29, 30, 31, 32, 5, 6, 7, 8, 9, 10, 11, 12, 13, 14, 15, 16, 17, 18, 19, 20, 21, 22, 23, 24]) (w1' := (fun _ => (ow q B o ++ (hw q (B 1) h1 ++ (hw q (B 2) h2 ++ (hw q (B 3) h3 ++ (tw q (B 4) t ++ (sw q (B 5) g)))))))) C (rd_V C (k_X0_has l D q tt (B 1) h1 S N y (by first | assumption | omega) (by first | assumption | omega)) gX4_fits_X0_has rfl rfl rfl 1 ok_X0_has rfl 0 rfl rfl (rest := []) rfl rfl (Nat.le_of_ble_eq_true rfl) dX4_fits_12 ⟨(Nat.le_of_ble_eq_true rfl), (Nat.le_of_ble_eq_true rfl)⟩ ⟨(Nat.le_of_ble_eq_true rfl), (Nat.le_of_ble_eq_true rfl)⟩) rfl rfl rfl (fun _ => rfl) rfl (fun r_12 _ h_12 => ?_)
    obtain rfl := h_12
    refine g_ifeqE C 27 dX4_fits_15 rfl rfl (fun c_15 => ?_) (fun c_15 => ?_)
    · refine g_iconst C (-1) dX4_fits_27 (by decide) ?_
      exact g_iret C h2 hr dX4_fits_28 (Nat.le_of_ble_eq_true rfl) (Nat.le_of_ble_eq_true rfl) rfl (by have hn_ : ¬ fiG S x y z := fun h => c_15 (by rw [← hS0]; exact h.2.1); rw [if_neg hn_])
    · refine g_iloadn C dX4_fits_18 3 rfl rfl ?_
      refine g_iconst C 0 dX4_fits_19 (by decide) ?_
      refine g_iconst C 1 dX4_fits_20 (by decide) ?_
      refine g_call0i C (rd_S C (k_X4_within l D q tt z 0 1 ) gX4_fits_X4_within rfl rfl rfl 3 ok_X4_within (rest := []) rfl rfl (Nat.le_of_ble_eq_true rfl) dX4_fits_21 ⟨(Nat.le_of_ble_eq_true rfl), (Nat.le_of_ble_eq_true rfl)⟩ ⟨(Nat.le_of_ble_eq_true rfl), (Nat.le_of_ble_eq_true rfl)⟩) (fun _ => rfl) (fun r_21 _ h_21 => ?_)
      obtain rfl := h_21
      refine g_ifneE C 29 dX4_fits_24 rfl rfl (fun c_24 => ?_) (fun c_24 => ?_)
      · obtain ⟨j, hj, ej, ec⟩ := ix_le (n := 3) (by omega) c_4
        refine g_aloadn C dX4_fits_29 0 rfl rfl ?_
        refine g_get C fx4 w_0 0 8 (v := .ref ((B 0) 2)) rfl (by decide) w_2 rfl dX4_fits_30 ?_
        refine g_iloadn C dX4_fits_33 1 rfl rfl ?_
        refine g_topci (nI j) (ej) ?_
        refine g_aldN C 2 (j) (f := (o_sheets o)) rfl rfl (by omega) (by decide) (hno j (by omega) ej) dX4_fits_34 ?_
        refine g_astoreN C [(4, .null), (0, .ref ((B 0) 0)), (1, .int x), (2, .int y), (3, .int z)] dX4_fits_35 (by decide) rfl ?_
        refine g_aloadN C dX4_fits_37 0 rfl ?_
        refine g_ifnonnullN C dX4_fits_39 ?_
        refine g_bipush C (-11) dX4_fits_42 (by decide) ?_
        exact g_iret C h2 hr dX4_fits_44 (Nat.le_of_ble_eq_true rfl) (Nat.le_of_ble_eq_true rfl) rfl (by have hg_ : fiG S x y z := ⟨c_4, by rw [hS0]; exact c_15, c_24⟩; rw [if_pos hg_])
      · refine g_iconst C (-1) dX4_fits_27 (by decide) ?_
        exact g_iret C h2 hr dX4_fits_28 (Nat.le_of_ble_eq_true rfl) (Nat.le_of_ble_eq_true rfl) rfl (by have hn_ : ¬ fiG S x y z := fun h => c_24 h.2.2; rw [if_neg hn_])

