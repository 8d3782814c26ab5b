set_option maxRecDepth 100000 in
set_option maxHeartbeats 4000000 in
theorem k_X4_isShelved (l : Launch) (D : va_G) (q : Nat → ClassId) (tt : Nat → Nat) (B : Nat → Nat → Nat) (o : OC) (h1 : HC) (h2 : HC) (h3 : HC) (t : TC) (g : GC) (S : Nat → Int32) (N : Nat) (x : Int32) (y : Int32) (hG : Gd S N) (rS : HR S N h1) : MI l D q tt yX4_isShelved wsX4_isShelved ({ frames := 2, cells := 0, slots := 0, locals := 43 } : Room) [.ref ((B 0) 0), .int x, .int y] (ow q B o ++ (hw q (B 1) h1 ++ (hw q (B 2) h2 ++ (hw q (B 3) h3 ++ (tw q (B 4) t ++ (sw q (B 5) g)))))) (fun (r : Int32) (u : Unit) => r = (bI ((0 ≤ x ∧ x ≤ 2) ∧ (x = 0 → (0 ≤ y ∧ y < S 0)) ∧ (x = 1 → (0 ≤ y ∧ y ≤ 3))))) (fun (_ : Unit) => (ow q B o ++ (hw q (B 1) h1 ++ (hw q (B 2) h2 ++ (hw q (B 3) h3 ++ (tw q (B 4) t ++ (sw q (B 5) g))))))) 0 0 := by
  refine MI.of RX4 [(0, .ref ((B 0) 0)), (1, .int x), (2, .int y)] (by decide) rfl rfl (Nat.le_of_ble_eq_true rfl) rfl ?_
  intro p e s m args below meth c A C hr hnm
  have w_0 : ∀ w ∈ u_ws RX4 TX4 11, w ∈ wsX4_isShelved := by decide +kernel
  have w_1 : Cond.fieldLink RX4 10 (TX4 0).1 (TX4 0).2.1 (TX4 0).2.2.1 ∈ wsX4_isShelved := by decide +kernel
  have h8 := hG.le
  have hS0 := hG.n
  refine g_iloadn C dX4_isShelved_0 1 rfl rfl ?_
  by_cases s_1_0 : x = 0
  · refine g_tin C 28 dX4_isShelved_1 (by rw [s_1_0]; decide) (by rw [s_1_0]; decide) (by rw [s_1_0]; rfl) rfl ?_
    refine g_aloadn C dX4_isShelved_28 0 rfl rfl ?_
    refine g_get C fx4 w_0 0 0 (v := .ref ((B 1) 0)) rfl (by decide) w_1 rfl dX4_isShelved_29 ?_
    refine g_iloadn C dX4_isShelved_32 2 rfl rfl ?_
    refine g_callWi (w1 := (ow q B o ++ (hw q (B 1) h1 ++ (hw q (B 2) h2 ++ (hw q (B 3) h3 ++ (tw q (B 4) t ++ (sw q (B 5) g))))))) (wr := ([0, 1, 2, 3, 4, 13, 14, 15, 16, 17, 18, 19, 20, 21, 22, 23, 24, 25, 26, 27, 28, 29, 30, 31, 32] : List Nat).filterMap (fun i => (ow q B o ++ (hw q (B 1) h1 ++ (hw q (B 2) h2 ++ (hw q (B 3) h3 ++ (tw q (B 4) t ++ (sw q (B 5) g))))))[i]?)) (isC := [5, 6, 7, 8, 9, 10, 11, 12]) (isR := [0, 1, 2, 3, 4, 13, 14, 15, 16, 17, 18, 19, 20, 21, 22, 23, 24, 25, 26, 27, 28, 29, 30, 31, 32]) (pm := [0, 1, 2, 3, 4, 25, 26, 27, 28, 29, 30, 31, 32, 5, 6, 7, 8, 9, 10, 11, 12, 13, 14, 15, 16, 17, 18, 19, 20, 21, 22, 23, 24]) (w1' := (fun _ => (ow q B o ++ (hw q (B 1) h1 ++ (hw q (B 2) h2 ++ (hw q (B 3) h3 ++ (tw q (B 4) t ++ (sw q (B 5) g)))))))) C (rd_V C (k_X0_has l D q tt (B 1) h1 S N y (by first | assumption | omega) (by first | assumption | omega)) gX4_isShelved_X0_has rfl rfl rfl 1 ok_X0_has rfl 0 rfl rfl (rest := []) rfl rfl (Nat.le_of_ble_eq_true rfl) dX4_isShelved_33 ⟨(Nat.le_of_ble_eq_true rfl), (Nat.le_of_ble_eq_true rfl)⟩ ⟨(Nat.le_of_ble_eq_true rfl), (Nat.le_of_ble_eq_true rfl)⟩) rfl rfl rfl (fun _ => rfl) rfl (fun r_33 _ h_33 => ?_)
    obtain rfl := h_33
    exact g_zret C () hr bI_z dX4_isShelved_36 (Nat.le_of_ble_eq_true rfl) (Nat.le_of_ble_eq_true rfl) rfl (bI_congr ⟨fun h => ⟨by rw [s_1_0]; decide, fun _ => by rw [hS0]; exact h, fun h1 => absurd (s_1_0.symm.trans h1) (by decide)⟩, fun h => by have := h.2.1 s_1_0; rw [hS0] at this; exact this⟩)
  by_cases s_1_1 : x = 1
  · refine g_tin C 37 dX4_isShelved_1 (by rw [s_1_1]; decide) (by rw [s_1_1]; decide) (by rw [s_1_1]; rfl) rfl ?_
    refine g_iloadn C dX4_isShelved_37 2 rfl rfl ?_
    refine g_call0i C (rd_S C (k_X4_isPlace l D q tt y ) gX4_isShelved_X4_isPlace rfl rfl rfl 1 ok_X4_isPlace (rest := []) rfl rfl (Nat.le_of_ble_eq_true rfl) dX4_isShelved_38 ⟨(Nat.le_of_ble_eq_true rfl), (Nat.le_of_ble_eq_true rfl)⟩ ⟨(Nat.le_of_ble_eq_true rfl), (Nat.le_of_ble_eq_true rfl)⟩) (fun _ => rfl) (fun r_38 _ h_38 => ?_)
    obtain rfl := h_38
    exact g_zret C () hr bI_z dX4_isShelved_41 (Nat.le_of_ble_eq_true rfl) (Nat.le_of_ble_eq_true rfl) rfl (bI_congr ⟨fun h => ⟨by rw [s_1_1]; decide, fun h1 => absurd (s_1_1.symm.trans h1) (by decide), fun _ => h⟩, fun h => h.2.2 s_1_1⟩)
  by_cases s_1_2 : x = 2
  · refine g_tin C 42 dX4_isShelved_1 (by rw [s_1_2]; decide) (by rw [s_1_2]; decide) (by rw [s_1_2]; rfl) rfl ?_
    refine g_iconst C 1 dX4_isShelved_42 (by decide) ?_
    exact g_zret C () hr rfl dX4_isShelved_43 (Nat.le_of_ble_eq_true rfl) (Nat.le_of_ble_eq_true rfl) rfl ((bI_t ⟨by rw [s_1_2]; decide, fun h1 => absurd (s_1_2.symm.trans h1) (by decide), fun h1 => absurd (s_1_2.symm.trans h1) (by decide)⟩).symm)
  have ns_1_0 := lv_neT s_1_0 (a := 0) (by decide)
  have ns_1_1 := lv_neT s_1_1 (a := 1) (by decide)
  have ns_1_2 := lv_neT s_1_2 (a := 2) (by decide)
  refine g_tout C 44 dX4_isShelved_1 (by omega) rfl ?_
  refine g_iconst C 0 dX4_isShelved_44 (by decide) ?_
  exact g_zret C () hr rfl dX4_isShelved_45 (Nat.le_of_ble_eq_true rfl) (Nat.le_of_ble_eq_true rfl) rfl (by
      refine (bI_n (fun h => ?_)).symm
      obtain ⟨j, hj, ej, -⟩ := ix_le (n := 2) (by omega) h.1
      have h3 : j = 0 ∨ j = 1 ∨ j = 2 := by omega
      rcases h3 with rfl | rfl | rfl
      · exact s_1_0 ej
      · exact s_1_1 ej
      · exact s_1_2 ej)

