set_option maxRecDepth 100000 in
set_option maxHeartbeats 4000000 in
theorem k_mindsN (l : Launch) (D : va_G) (q : Nat → ClassId) (tt : Nat → Nat) (B : Nat → Nat → Nat) (o : OC) (h1 : HC) (h2 : HC) (h3 : HC) (t : TC) (g : GC) (S : Nat → Int32) (N : Nat) (x : Int32) (y : Int32) (z : Int32) (w : Int32) (hG : Gd S N) (rS : HR S N h1) (hno : ∀ j, j < 4 → x = nI j → (o_sheets o) j = none) : MI l D q tt yX4_minds wsX4_minds ({ frames := 2, cells := 0, slots := 0, locals := 43 } : Room) [.ref ((B 0) 0), .int x, .int y, .int z, .int w] (ow q B o ++ (hw q (B 1) h1 ++ (hw q (B 2) h2 ++ (hw q (B 3) h3 ++ (tw q (B 4) t ++ (sw q (B 5) g)))))) (fun (r : Int32) (u : Unit) => r = if miG S x y z w then -11 else -1) (fun (_ : Unit) => (ow q B o ++ (hw q (B 1) h1 ++ (hw q (B 2) h2 ++ (hw q (B 3) h3 ++ (tw q (B 4) t ++ (sw q (B 5) g))))))) 0 0 := by
  refine MI.of RX4 [(0, .ref ((B 0) 0)), (1, .int x), (2, .int y), (3, .int z), (4, .int w)] (by decide) rfl rfl (Nat.le_of_ble_eq_true rfl) rfl ?_
  intro p e s m args below meth c A C hr hnm
  have w_0 : ∀ w ∈ u_ws RX4 TX4 11, w ∈ wsX4_minds := by decide +kernel
  have w_1 : Cond.fieldLink RX4 10 (TX4 0).1 (TX4 0).2.1 (TX4 0).2.2.1 ∈ wsX4_minds := by decide +kernel
  have w_2 : ∀ w ∈ u_ws RX0 TX0 11, w ∈ wsX4_minds := by decide +kernel
  have w_3 : Cond.fieldLink RX4 85 (TX0 5).1 (TX0 5).2.1 (TX0 5).2.2.1 ∈ wsX4_minds := by decide +kernel
  have w_4 : Cond.fieldLink RX4 50 (TX4 8).1 (TX4 8).2.1 (TX4 8).2.2.1 ∈ wsX4_minds := by decide +kernel
  have h8 := hG.le
  have hS0 := hG.n
  refine g_iloadn C dX4_minds_0 1 rfl rfl ?_
  refine g_call0i C (rd_S C (k_X4_isPlace l D q tt x ) gX4_minds_X4_isPlace rfl rfl rfl 1 ok_X4_isPlace (rest := []) rfl rfl (Nat.le_of_ble_eq_true rfl) dX4_minds_1 ⟨(Nat.le_of_ble_eq_true rfl), (Nat.le_of_ble_eq_true rfl)⟩ ⟨(Nat.le_of_ble_eq_true rfl), (Nat.le_of_ble_eq_true rfl)⟩) (fun _ => rfl) (fun r_1 _ h_1 => ?_)
  obtain rfl := h_1
  refine g_ifeqE C 43 dX4_minds_4 rfl rfl (fun c_4 => ?_) (fun c_4 => ?_)
  · refine g_iconst C (-1) dX4_minds_43 (by decide) ?_
    exact g_iret C () hr dX4_minds_44 (Nat.le_of_ble_eq_true rfl) (Nat.le_of_ble_eq_true rfl) rfl (by have hn_ : ¬ miG S x y z w := fun h => c_4 h.1; rw [if_neg hn_])
  · refine g_aloadn C dX4_minds_7 0 rfl rfl ?_
    refine g_get C fx4 w_0 0 0 (v := .ref ((B 1) 0)) rfl (by decide) w_1 rfl dX4_minds_8 ?_
    refine g_iloadn C dX4_minds_11 3 rfl rfl ?_
    refine g_callWi (w1 := (ow q B o ++ (hw q (B 1) h1 ++ (hw q (B 2) h2 ++ (hw q (B 3) h3 ++ (tw q (B 4) t ++ (sw q (B 5) g))))))) (wr := ([0, 1, 2, 3, 4, 13, 14, 15, 16, 17, 18, 19, 20, 21, 22, 23, 24, 25, 26, 27, 28, 29, 30, 31, 32] : List Nat).filterMap (fun i => (ow q B o ++ (hw q (B 1) h1 ++ (hw q (B 2) h2 ++ (hw q (B 3) h3 ++ (tw q (B 4) t ++ (sw q (B 5) g))))))[i]?)) (isC := [5, 6, 7, 8, 9, 10, 11, 12]) (isR := [0, 1, 2, 3, 4, 13, 14, 15, 16, 17, 18, 19, 20, 21, 22, 23, 24, 25, 26, 27, 28, 29, 30, 31, 32]) (pm := [0, 1, 2, 3, 4, 25, 26, 27, 28, 29, 30, 31, 32, 5, 6, 7, 8, 9, 10, 11, 12, 13, 14, 15, 16, 17, 18, 19, 20, 21, 22, 23, 24]) (w1' := (fun _ => (ow q B o ++ (hw q (B 1) h1 ++ (hw q (B 2) h2 ++ (hw q (B 3) h3 ++ (tw q (B 4) t ++ (sw q (B 5) g)))))))) C (rd_V C (k_X0_has l D q tt (B 1) h1 S N z (by first | assumption | omega) (by first | assumption | omega)) gX4_minds_X0_has rfl rfl rfl 1 ok_X0_has rfl 0 rfl rfl (rest := []) rfl rfl (Nat.le_of_ble_eq_true rfl) dX4_minds_12 ⟨(Nat.le_of_ble_eq_true rfl), (Nat.le_of_ble_eq_true rfl)⟩ ⟨(Nat.le_of_ble_eq_true rfl), (Nat.le_of_ble_eq_true rfl)⟩) rfl rfl rfl (fun _ => rfl) rfl (fun r_12 _ h_12 => ?_)
    obtain rfl := h_12
    refine g_ifeqE C 43 dX4_minds_15 rfl rfl (fun c_15 => ?_) (fun c_15 => ?_)
    · refine g_iconst C (-1) dX4_minds_43 (by decide) ?_
      exact g_iret C () hr dX4_minds_44 (Nat.le_of_ble_eq_true rfl) (Nat.le_of_ble_eq_true rfl) rfl (by have hn_ : ¬ miG S x y z w := fun h => c_15 (by rw [← hS0]; exact h.2.1); rw [if_neg hn_])
    · refine g_iload C dX4_minds_18 4 rfl ?_
      refine g_iconst C 0 dX4_minds_20 (by decide) ?_
      refine g_bipush C 8 dX4_minds_21 (by decide) ?_
      refine g_call0i C (rd_S C (k_X4_within l D q tt w 0 8 ) gX4_minds_X4_within rfl rfl rfl 3 ok_X4_within (rest := []) rfl rfl (Nat.le_of_ble_eq_true rfl) dX4_minds_23 ⟨(Nat.le_of_ble_eq_true rfl), (Nat.le_of_ble_eq_true rfl)⟩ ⟨(Nat.le_of_ble_eq_true rfl), (Nat.le_of_ble_eq_true rfl)⟩) (fun _ => rfl) (fun r_23 _ h_23 => ?_)
      obtain rfl := h_23
      refine g_ifeqE C 43 dX4_minds_26 rfl rfl (fun c_26 => ?_) (fun c_26 => ?_)
      · refine g_iconst C (-1) dX4_minds_43 (by decide) ?_
        exact g_iret C () hr dX4_minds_44 (Nat.le_of_ble_eq_true rfl) (Nat.le_of_ble_eq_true rfl) rfl (by have hn_ : ¬ miG S x y z w := fun h => c_26 h.2.2.1; rw [if_neg hn_])
      · refine g_iloadn C dX4_minds_29 3 rfl rfl ?_
        refine g_iload C dX4_minds_30 4 rfl ?_
        refine g_iadd C dX4_minds_32 ?_
        refine g_aloadn C dX4_minds_33 0 rfl rfl ?_
        refine g_get C fx4 w_0 0 0 (v := .ref ((B 1) 0)) rfl (by decide) w_1 rfl dX4_minds_34 ?_
        refine g_get C fx0 w_2 5 5 (v := .int (hN h1)) rfl (by decide) w_3 rfl dX4_minds_37 ?_
        refine g_topci (nI N) (rS.n hG) ?_
        refine g_icmp_le C 45 dX4_minds_40 rfl (fun c_40 => ?_) (fun c_40 => ?_)
        · obtain ⟨j, hj, ej, ec⟩ := ix_le (n := 3) (by omega) c_4
          refine g_aloadn C dX4_minds_45 0 rfl rfl ?_
          refine g_get C fx4 w_0 0 8 (v := .ref ((B 0) 2)) rfl (by decide) w_4 rfl dX4_minds_46 ?_
          refine g_iloadn C dX4_minds_49 1 rfl rfl ?_
          refine g_topci (nI j) (ej) ?_
          refine g_aldN C 2 (j) (f := (o_sheets o)) rfl rfl (by omega) (by decide) (hno j (by omega) ej) dX4_minds_50 ?_
          refine g_astoreN C [(5, .null), (0, .ref ((B 0) 0)), (1, .int x), (2, .int y), (3, .int z), (4, .int w)] dX4_minds_51 (by decide) rfl ?_
          refine g_aloadN C dX4_minds_53 0 rfl ?_
          refine g_ifnonnullN C dX4_minds_55 ?_
          refine g_bipush C (-11) dX4_minds_58 (by decide) ?_
          exact g_iret C () hr dX4_minds_60 (Nat.le_of_ble_eq_true rfl) (Nat.le_of_ble_eq_true rfl) rfl (by have hg_ : miG S x y z w := ⟨c_4, by rw [hS0]; exact c_15, c_26, by rw [hS0]; exact c_40⟩; rw [if_pos hg_])
        · refine g_iconst C (-1) dX4_minds_43 (by decide) ?_
          exact g_iret C () hr dX4_minds_44 (Nat.le_of_ble_eq_true rfl) (Nat.le_of_ble_eq_true rfl) rfl (by have hn_ : ¬ miG S x y z w := fun h => c_40 (by rw [← hS0]; exact h.2.2.2); rw [if_neg hn_])

