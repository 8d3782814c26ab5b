set_option maxRecDepth 100000 in
set_option maxHeartbeats 4000000 in
theorem k_X4_sheet (l : Launch) (D : va_G) (q : Nat → ClassId) (tt : Nat → Nat) (B : Nat → Nat → Nat) (o : OC) (h1 : HC) (h2 : HC) (h3 : HC) (t : TC) (g : GC) (S : Nat → Int32) (N : Nat) (x : Int32) (y : Int32) (z : Int32) (hG : Gd S N) (rS : HR S N h1) : MI l D q tt yX4_sheet wsX4_sheet ({ frames := 2, cells := 2, slots := 42, locals := 42 } : Room) [.ref ((B 0) 0), .int x, .int y, .int z] (ow q B o ++ (hw q (B 1) h1 ++ (hw q (B 2) h2 ++ (hw q (B 3) h3 ++ (tw q (B 4) t ++ (sw q (B 5) g)))))) (fun (r : Int32) (u : (Nat → Option Nat) × List PE) => r = R_sheet x y z ∧ ((u.2 = [] ∧ ¬ (seH x y z ∧ 0 ≤ y) ∧ u.1 = (if seH x y z then va_up (o_sheets o) x.toNatClampNeg none else (o_sheets o))) ∨ ((seH x y z ∧ 0 ≤ y) ∧ ∃ z1 z2 n, n ≤ 40 ∧ z = nI n ∧ u.2 = [(z1, z2, y, n, fun _ => 0)] ∧ u.1 = va_up (o_sheets o) x.toNatClampNeg (some z1)))) (fun u => (ow q B ((o_keeps o), (o_rows o), (o_rowCount o), u.1, (o_shelvedRows o), (o_shelvedPeople o)) ++ (hw q (B 1) h1 ++ (hw q (B 2) h2 ++ (hw q (B 3) h3 ++ (tw q (B 4) t ++ (sw q (B 5) g ++ (pw q u.2)))))))) 2 42 := by
  refine MI.of RX4 [(0, .ref ((B 0) 0)), (1, .int x), (2, .int y), (3, .int z)] (by decide) rfl rfl (Nat.le_of_ble_eq_true rfl) rfl ?_
  intro p e s m args below meth c A C hr hnm
  have w_0 : ∀ w ∈ u_ws RX4 TX4 11, w ∈ wsX4_sheet := by decide +kernel
  have w_1 : Cond.fieldLink RX4 50 (TX4 8).1 (TX4 8).2.1 (TX4 8).2.2.1 ∈ wsX4_sheet := by decide +kernel
  have w_2 : Cond.classLink RX4 48 RX1 ∈ wsX4_sheet := by decide +kernel
  have w_3 : Cond.instantiable RX1 2 ∈ wsX4_sheet := by decide +kernel
  have w_4 : Cond.initialized RX1 ∈ wsX4_sheet := by decide +kernel
  have w_5 : ∀ w ∈ u_ws RX1 TX1 2, w ∈ wsX4_sheet := by decide +kernel
  have w_6 : Cond.arrayClass .long ∈ wsX4_sheet := by decide +kernel
  have w_7 : Cond.methodLink RX4 241 yX1_init ∈ wsX4_sheet := by decide +kernel
  have w_8 : Cond.instanceMethod yX1_init ∈ wsX4_sheet := by decide +kernel
  have w_9 : Cond.initialized yX1_init.cls ∈ wsX4_sheet := by decide +kernel
  have h8 := hG.le
  have hS0 := hG.n
  refine g_iloadn C dX4_sheet_0 1 rfl rfl ?_
  refine g_call0i C (rd_S C (k_X4_isPlace l D q tt x ) gX4_sheet_X4_isPlace rfl rfl rfl 1 ok_X4_isPlace (rest := []) rfl rfl (Nat.le_of_ble_eq_true rfl) dX4_sheet_1 ⟨(Nat.le_of_ble_eq_true rfl), (Nat.le_of_ble_eq_true rfl)⟩ ⟨(Nat.le_of_ble_eq_true rfl), (Nat.le_of_ble_eq_true rfl)⟩) (fun _ => rfl) (fun r_1 _ h_1 => ?_)
  obtain rfl := h_1
  refine g_ifeqE C 16 dX4_sheet_4 rfl rfl (fun c_4 => ?_) (fun c_4 => ?_)
  · refine g_iconst C (-1) dX4_sheet_16 (by decide) ?_
    exact g_iret C ((o_sheets o), []) hr dX4_sheet_17 (Nat.le_of_ble_eq_true rfl) (Nat.le_of_ble_eq_true rfl) rfl (by have hn_ : ¬ seG x y z := fun h => c_4 h.1; unfold R_sheet; rw [if_neg hn_, if_neg (fun h => hn_ h.1)]; exact ⟨rfl, Or.inl ⟨rfl, fun h => hn_ h.1.1, rfl⟩⟩)
  · refine g_iloadn C dX4_sheet_7 2 rfl rfl ?_
    refine g_iconst C (-1) dX4_sheet_8 (by decide) ?_
    refine g_iconst C 3 dX4_sheet_9 (by decide) ?_
    refine g_call0i C (rd_S C (k_X4_within l D q tt y (-1) 3 ) gX4_sheet_X4_within rfl rfl rfl 3 ok_X4_within (rest := []) rfl rfl (Nat.le_of_ble_eq_true rfl) dX4_sheet_10 ⟨(Nat.le_of_ble_eq_true rfl), (Nat.le_of_ble_eq_true rfl)⟩ ⟨(Nat.le_of_ble_eq_true rfl), (Nat.le_of_ble_eq_true rfl)⟩) (fun _ => rfl) (fun r_10 _ h_10 => ?_)
    obtain rfl := h_10
    refine g_ifneE C 18 dX4_sheet_13 rfl rfl (fun c_13 => ?_) (fun c_13 => ?_)
    · obtain ⟨j, hj, ej, ec⟩ := ix_le (n := 3) (by omega) c_4
      refine g_iloadn C dX4_sheet_18 2 rfl rfl ?_
      refine g_iconst C (-1) dX4_sheet_19 (by decide) ?_
      refine g_icmp_ne C 32 dX4_sheet_20 rfl (fun c_20 => ?_) (fun c_20 => ?_)
      · have hy0 : 0 ≤ y := se_y c_13.1 c_20
        refine g_iloadn C dX4_sheet_32 3 rfl rfl ?_
        refine g_bipush C 40 dX4_sheet_33 (by decide) ?_
        refine g_icmp_le C 40 dX4_sheet_35 rfl (fun c_35 => ?_) (fun c_35 => ?_)
        · refine g_iloadn C dX4_sheet_40 3 rfl rfl ?_
          refine g_if_ge C 47 dX4_sheet_41 rfl (fun c_41 => ?_) (fun c_41 => ?_)
          · obtain ⟨n, hn, en, -⟩ := ix_le (n := 40) (by omega) ⟨c_41, c_35⟩
            refine g_aloadn C dX4_sheet_47 0 rfl rfl ?_
            refine g_get C fx4 w_0 0 8 (v := .ref ((B 0) 2)) rfl (by decide) w_1 rfl dX4_sheet_48 ?_
            refine g_iloadn C dX4_sheet_51 1 rfl rfl ?_
            refine g_topci (nI j) (ej) ?_
            refine g_new C fx1 w_5 [.int 0, .null] (by decide) w_2 w_3 w_4 (Nat.le_of_ble_eq_true rfl) (Nat.le_of_ble_eq_true rfl) dX4_sheet_52 (fun z_52 => ?_)
            show G p l e _ s m args below meth c 4 D A _ 55 [(0, .ref ((B 0) 0)), (1, .int x), (2, .int y), (3, .int z)] [.ref z_52, .int (nI j), .ref ((B 0) 2)] (ow q B o ++ (hw q (B 1) h1 ++ (hw q (B 2) h2 ++ (hw q (B 3) h3 ++ (tw q (B 4) t ++ (sw q (B 5) g ++ (([(z_52, .inr (1, [.int 0, .null]))] : va_W)))))))) _ _
            refine g_dup C dX4_sheet_55 rfl ?_
            refine g_iloadn C dX4_sheet_56 2 rfl rfl ?_
            refine g_iloadn C dX4_sheet_57 3 rfl rfl ?_
            refine g_topci (nI n) (en) ?_
            refine g_newaJ C (n) rfl (by omega) w_6 (Nat.le_of_ble_eq_true rfl) (show 2 + n ≤ 42 by omega) dX4_sheet_58 (fun z_58 => ?_)
            show G p l e _ s m args below meth c 4 D A _ 60 [(0, .ref ((B 0) 0)), (1, .int x), (2, .int y), (3, .int z)] [.ref z_58, .int y, .ref z_52, .ref z_52, .int (nI j), .ref ((B 0) 2)] (ow q B o ++ (hw q (B 1) h1 ++ (hw q (B 2) h2 ++ (hw q (B 3) h3 ++ (tw q (B 4) t ++ (sw q (B 5) g ++ (([(z_52, .inr (1, [.int 0, .null]))] : va_W) ++ (([(z_58, aJ (q 3) n (fun _ => 0))] : va_W))))))))) _ _
            refine g_callWv (w1 := (ow q B o ++ (hw q (B 1) h1 ++ (hw q (B 2) h2 ++ (hw q (B 3) h3 ++ (tw q (B 4) t ++ (sw q (B 5) g ++ (([(z_52, .inr (1, [.int 0, .null]))] : va_W) ++ (([(z_58, aJ (q 3) n (fun _ => 0))] : va_W)))))))))) (wr := ([0, 1, 2, 3, 4, 5, 6, 7, 8, 9, 10, 11, 12, 13, 14, 15, 16, 17, 18, 19, 20, 21, 22, 23, 24, 25, 26, 27, 28, 29, 30, 31, 32, 34] : List Nat).filterMap (fun i => (ow q B o ++ (hw q (B 1) h1 ++ (hw q (B 2) h2 ++ (hw q (B 3) h3 ++ (tw q (B 4) t ++ (sw q (B 5) g ++ (([(z_52, .inr (1, [.int 0, .null]))] : va_W) ++ (([(z_58, aJ (q 3) n (fun _ => 0))] : va_W)))))))))[i]?)) (isC := [33]) (isR := [0, 1, 2, 3, 4, 5, 6, 7, 8, 9, 10, 11, 12, 13, 14, 15, 16, 17, 18, 19, 20, 21, 22, 23, 24, 25, 26, 27, 28, 29, 30, 31, 32, 34]) (pm := [0, 1, 2, 3, 4, 5, 6, 7, 8, 9, 10, 11, 12, 13, 14, 15, 16, 17, 18, 19, 20, 21, 22, 23, 24, 25, 26, 27, 28, 29, 30, 31, 32, 34, 33]) (w1' := (fun _ => (ow q B o ++ (hw q (B 1) h1 ++ (hw q (B 2) h2 ++ (hw q (B 3) h3 ++ (tw q (B 4) t ++ (sw q (B 5) g ++ (([(z_52, .inr (1, [.int y, .ref z_58]))] : va_W) ++ (([(z_58, aJ (q 3) n (fun _ => 0))] : va_W))))))))))) C (rd_I (ret := none) C (k_X1_init l D q tt z_52 z_58 y 0 ) gX4_sheet_X1_init rfl rfl rfl 2 ok_X1_init rfl w_7 w_8 w_9 (rest := [.ref z_52, .int (nI j), .ref ((B 0) 2)]) rfl rfl (Nat.le_of_ble_eq_true rfl) dX4_sheet_60 ⟨(Nat.le_of_ble_eq_true rfl), (Nat.le_of_ble_eq_true rfl)⟩ ⟨(Nat.le_of_ble_eq_true rfl), (show 2 + n + 0 ≤ 42 by omega)⟩) rfl rfl rfl (fun _ => rfl) rfl (fun _ h_60 => ?_)
            refine g_astq C 2 (j) 33 (f := (o_sheets o)) rfl rfl rfl (by omega) (by decide) dX4_sheet_63 (ow q B ((o_keeps o), (o_rows o), (o_rowCount o), (va_up (o_sheets o) j (some z_52)), (o_shelvedRows o), (o_shelvedPeople o)) ++ (hw q (B 1) h1 ++ (hw q (B 2) h2 ++ (hw q (B 3) h3 ++ (tw q (B 4) t ++ (sw q (B 5) g ++ (([(z_52, .inr (1, [.int y, .ref z_58]))] : va_W) ++ (([(z_58, aJ (q 3) n (fun _ => 0))] : va_W))))))))) rfl ?_
            refine g_iconst C 1 dX4_sheet_64 (by decide) ?_
            exact g_iret C ((va_up (o_sheets o) j (some z_52)), [(z_52, z_58, y, n, fun _ => 0)]) hr dX4_sheet_65 (by omega) (by omega) rfl (by
                have hg_ : seG x y z := ⟨c_4, c_13, fun _ => c_35⟩; have hl_ : ¬ (0 ≤ y ∧ z < 0) := fun h => absurd h.2 (Int32.not_lt.mpr c_41)
                unfold R_sheet; rw [if_pos hg_, if_neg hl_, ec]; exact ⟨rfl, Or.inr ⟨⟨⟨hg_, hl_⟩, hy0⟩, z_52, z_58, n, hn, en, rfl, rfl⟩⟩)
          · refine g_bipush C (-14) dX4_sheet_44 (by decide) ?_
            exact g_iret C ((o_sheets o), []) hr dX4_sheet_46 (Nat.le_of_ble_eq_true rfl) (Nat.le_of_ble_eq_true rfl) rfl (by have hg_ : seG x y z := ⟨c_4, c_13, fun _ => c_35⟩; have hl_ : 0 ≤ y ∧ z < 0 := ⟨hy0, Int32.not_le.mp c_41⟩; unfold R_sheet; rw [if_pos hg_, if_pos hl_, if_neg (fun h => h.2 hl_)]; exact ⟨rfl, Or.inl ⟨rfl, fun h => h.1.2 hl_, rfl⟩⟩)
        · refine g_iconst C (-1) dX4_sheet_38 (by decide) ?_
          exact g_iret C ((o_sheets o), []) hr dX4_sheet_39 (Nat.le_of_ble_eq_true rfl) (Nat.le_of_ble_eq_true rfl) rfl (by have hn_ : ¬ seG x y z := fun h => c_35 (h.2.2 hy0); unfold R_sheet; rw [if_neg hn_, if_neg (fun h => hn_ h.1)]; exact ⟨rfl, Or.inl ⟨rfl, fun h => hn_ h.1.1, rfl⟩⟩)
      · refine g_aloadn C dX4_sheet_23 0 rfl rfl ?_
        refine g_get C fx4 w_0 0 8 (v := .ref ((B 0) 2)) rfl (by decide) w_1 rfl dX4_sheet_24 ?_
        refine g_iloadn C dX4_sheet_27 1 rfl rfl ?_
        refine g_topci (nI j) (ej) ?_
        refine g_null C dX4_sheet_28 ?_
        refine g_astqN C 2 (j) (f := (o_sheets o)) rfl rfl (by omega) (by decide) dX4_sheet_29 (ow q B ((o_keeps o), (o_rows o), (o_rowCount o), (va_up (o_sheets o) j none), (o_shelvedRows o), (o_shelvedPeople o)) ++ (hw q (B 1) h1 ++ (hw q (B 2) h2 ++ (hw q (B 3) h3 ++ (tw q (B 4) t ++ (sw q (B 5) g)))))) rfl ?_
        refine g_iconst C 1 dX4_sheet_30 (by decide) ?_
        exact g_iret C ((va_up (o_sheets o) j none), []) hr dX4_sheet_31 (Nat.le_of_ble_eq_true rfl) (Nat.le_of_ble_eq_true rfl) rfl (by
            have hm_ : ¬ 0 ≤ y := (by rw [c_20]; decide)
            have hg_ : seG x y z := ⟨c_4, c_13, fun h => absurd h hm_⟩; unfold R_sheet; rw [if_pos hg_, if_neg (fun h => hm_ h.1), if_pos ⟨hg_, fun h => hm_ h.1⟩, ec]; exact ⟨rfl, Or.inl ⟨rfl, fun h => hm_ h.2, rfl⟩⟩)
    · refine g_iconst C (-1) dX4_sheet_16 (by decide) ?_
      exact g_iret C ((o_sheets o), []) hr dX4_sheet_17 (Nat.le_of_ble_eq_true rfl) (Nat.le_of_ble_eq_true rfl) rfl (by have hn_ : ¬ seG x y z := fun h => c_13 h.2.1; unfold R_sheet; rw [if_neg hn_, if_neg (fun h => hn_ h.1)]; exact ⟨rfl, Or.inl ⟨rfl, fun h => hn_ h.1.1, rfl⟩⟩)

