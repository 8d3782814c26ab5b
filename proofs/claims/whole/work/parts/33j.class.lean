set_option maxRecDepth 100000 in
set_option maxHeartbeats 4000000 in
theorem k_shelfS (l : Launch) (D : va_G) (q : Nat → ClassId) (tt : Nat → Nat) (B : Nat → Nat → Nat) (o : OC) (h1 : HC) (h2 : HC) (h3 : HC) (t : TC) (g : GC) (S : Nat → Int32) (N : Nat) (xa : Nat) (ya : Nat) (so : Int32) (n : Nat) (f : Nat → Int64) (x : Int32) (y : Int32) (i : Nat) (hG : Gd S N) (rS : HR S N h1) (hy : y = 1) (hi : i < 4) (hsome : (o_sheets o) i = some xa) : MI l D q tt yX4_shelf wsX4_shelf ({ frames := 3, cells := 0, slots := 0, locals := 65 } : Room) [.ref ((B 0) 0), .int x, .int y, .int (nI i)] (ow q B o ++ (hw q (B 1) h1 ++ (hw q (B 2) h2 ++ (hw q (B 3) h3 ++ (tw q (B 4) t ++ (sw q (B 5) g ++ (([(xa, .inr (1, [.int so, .ref ya]))] : va_W) ++ (([(ya, aJ (q 3) n f)] : va_W))))))))) (fun (r : Int32) (u : (Nat → Int32) × (Nat → Option Nat)) => r = R_shelf S x y (nI i) ∧ u.1 = P_shelf S (o_shelvedPeople o) x y (nI i) ∧ u.2 = Q_shelf S (o_shelvedRows o) (some xa) x y (nI i)) (fun u => (ow q B ((o_keeps o), (o_rows o), (o_rowCount o), (o_sheets o), u.2, u.1) ++ (hw q (B 1) h1 ++ (hw q (B 2) h2 ++ (hw q (B 3) h3 ++ (tw q (B 4) t ++ (sw q (B 5) g ++ (([(xa, .inr (1, [.int so, .ref ya]))] : va_W) ++ (([(ya, aJ (q 3) n f)] : va_W)))))))))) 0 0 := by
  refine MI.of RX4 [(0, .ref ((B 0) 0)), (1, .int x), (2, .int y), (3, .int (nI i))] (by decide) rfl rfl (Nat.le_of_ble_eq_true rfl) rfl ?_
  intro p e s m args below meth c A C hr hnm
  have w_0 : ∀ w ∈ u_ws RX4 TX4 11, w ∈ wsX4_shelf := by decide +kernel
  have w_1 : Cond.fieldLink RX4 57 (TX4 10).1 (TX4 10).2.1 (TX4 10).2.2.1 ∈ wsX4_shelf := by decide +kernel
  have w_2 : Cond.fieldLink RX4 54 (TX4 9).1 (TX4 9).2.1 (TX4 9).2.2.1 ∈ wsX4_shelf := by decide +kernel
  have w_3 : Cond.fieldLink RX4 50 (TX4 8).1 (TX4 8).2.1 (TX4 8).2.2.1 ∈ wsX4_shelf := by decide +kernel
  have h8 := hG.le
  have hS0 := hG.n
  refine g_iloadn C dX4_shelf_0 1 rfl rfl ?_
  refine g_call0i C (rd_S C (k_X4_isPlace l D q tt x ) gX4_shelf_X4_isPlace rfl rfl rfl 1 ok_X4_isPlace (rest := []) rfl rfl (Nat.le_of_ble_eq_true rfl) dX4_shelf_1 ⟨(Nat.le_of_ble_eq_true rfl), (Nat.le_of_ble_eq_true rfl)⟩ ⟨(Nat.le_of_ble_eq_true rfl), (Nat.le_of_ble_eq_true rfl)⟩) (fun _ => rfl) (fun r_1 _ h_1 => ?_)
  obtain rfl := h_1
  refine g_ifeqE C 16 dX4_shelf_4 rfl rfl (fun c_4 => ?_) (fun c_4 => ?_)
  · refine g_iconst C (-1) dX4_shelf_16 (by decide) ?_
    exact g_iret C ((o_shelvedPeople o), (o_shelvedRows o)) hr dX4_shelf_17 (Nat.le_of_ble_eq_true rfl) (Nat.le_of_ble_eq_true rfl) rfl (by have hn_ : ¬ shG S x y (nI i) := fun h => c_4 h.1; unfold R_shelf P_shelf Q_shelf; rw [if_neg hn_, if_neg hn_, if_neg hn_]; exact ⟨rfl, rfl, rfl⟩)
  · refine g_aloadn C dX4_shelf_7 0 rfl rfl ?_
    refine g_iloadn C dX4_shelf_8 2 rfl rfl ?_
    refine g_iloadn C dX4_shelf_9 3 rfl rfl ?_
    refine g_callWi (w1 := (ow q B o ++ (hw q (B 1) h1 ++ (hw q (B 2) h2 ++ (hw q (B 3) h3 ++ (tw q (B 4) t ++ (sw q (B 5) g ++ (([(xa, .inr (1, [.int so, .ref ya]))] : va_W) ++ (([(ya, aJ (q 3) n f)] : va_W)))))))))) (wr := ([33, 34] : List Nat).filterMap (fun i => (ow q B o ++ (hw q (B 1) h1 ++ (hw q (B 2) h2 ++ (hw q (B 3) h3 ++ (tw q (B 4) t ++ (sw q (B 5) g ++ (([(xa, .inr (1, [.int so, .ref ya]))] : va_W) ++ (([(ya, aJ (q 3) n f)] : va_W)))))))))[i]?)) (isC := [0, 1, 2, 3, 4, 5, 6, 7, 8, 9, 10, 11, 12, 13, 14, 15, 16, 17, 18, 19, 20, 21, 22, 23, 24, 25, 26, 27, 28, 29, 30, 31, 32]) (isR := [33, 34]) (pm := [2, 3, 4, 5, 6, 7, 8, 9, 10, 11, 12, 13, 14, 15, 16, 17, 18, 19, 20, 21, 22, 23, 24, 25, 26, 27, 28, 29, 30, 31, 32, 33, 34, 0, 1]) (w1' := (fun _ => (ow q B o ++ (hw q (B 1) h1 ++ (hw q (B 2) h2 ++ (hw q (B 3) h3 ++ (tw q (B 4) t ++ (sw q (B 5) g ++ (([(xa, .inr (1, [.int so, .ref ya]))] : va_W) ++ (([(ya, aJ (q 3) n f)] : va_W))))))))))) C (rd_V C (k_X4_isShelved l D q tt B o h1 h2 h3 t g S N y (nI i) (by first | assumption | omega) (by first | assumption | omega)) gX4_shelf_X4_isShelved rfl rfl rfl 2 ok_X4_isShelved rfl 0 rfl rfl (rest := []) rfl rfl (Nat.le_of_ble_eq_true rfl) dX4_shelf_10 ⟨(Nat.le_of_ble_eq_true rfl), (Nat.le_of_ble_eq_true rfl)⟩ ⟨(Nat.le_of_ble_eq_true rfl), (Nat.le_of_ble_eq_true rfl)⟩) rfl rfl rfl (fun _ => rfl) rfl (fun r_10 _ h_10 => ?_)
    obtain rfl := h_10
    refine g_ifneE C 18 dX4_shelf_13 rfl rfl (fun c_13 => ?_) (fun c_13 => ?_)
    · obtain ⟨j, hj, ej, ec⟩ := ix_le (n := 3) (by omega) c_4
      refine g_aloadn C dX4_shelf_18 0 rfl rfl ?_
      refine g_get C fx4 w_0 0 10 (v := .ref ((B 0) 4)) rfl (by decide) w_1 rfl dX4_shelf_19 ?_
      refine g_iloadn C dX4_shelf_22 1 rfl rfl ?_
      refine g_topci (nI j) (ej) ?_
      refine g_iloadn C dX4_shelf_23 2 rfl rfl ?_
      refine g_if_ne C 31 dX4_shelf_24 rfl (fun c_24 => ?_) (fun c_24 => ?_)
      · refine g_iconst C (-1) dX4_shelf_31 (by decide) ?_
        refine g_iast C 4 (j) (f := (o_shelvedPeople o)) rfl rfl (by omega) (by decide) dX4_shelf_32 (ow q B ((o_keeps o), (o_rows o), (o_rowCount o), (o_sheets o), (o_shelvedRows o), (upd (o_shelvedPeople o) j (-1))) ++ (hw q (B 1) h1 ++ (hw q (B 2) h2 ++ (hw q (B 3) h3 ++ (tw q (B 4) t ++ (sw q (B 5) g ++ (([(xa, .inr (1, [.int so, .ref ya]))] : va_W) ++ (([(ya, aJ (q 3) n f)] : va_W))))))))) rfl ?_
        refine g_aloadn C dX4_shelf_33 0 rfl rfl ?_
        refine g_get C fx4 w_0 0 9 (v := .ref ((B 0) 3)) rfl (by decide) w_2 rfl dX4_shelf_34 ?_
        refine g_iloadn C dX4_shelf_37 1 rfl rfl ?_
        refine g_topci (nI j) (ej) ?_
        refine g_iloadn C dX4_shelf_38 2 rfl rfl ?_
        refine g_iconst C 1 dX4_shelf_39 (by decide) ?_
        refine g_icmp_ne C 59 dX4_shelf_40 rfl (fun c_40 => ?_) (fun c_40 => ?_)
        · exfalso
          exact c_40 hy
        · refine g_iloadn C dX4_shelf_43 3 rfl rfl ?_
          refine g_call0i C (rd_S C (k_X4_isPlace l D q tt (nI i) ) gX4_shelf_X4_isPlace rfl rfl rfl 1 ok_X4_isPlace (rest := [.int (nI j), .ref ((B 0) 3)]) rfl rfl (Nat.le_of_ble_eq_true rfl) dX4_shelf_44 ⟨(Nat.le_of_ble_eq_true rfl), (Nat.le_of_ble_eq_true rfl)⟩ ⟨(Nat.le_of_ble_eq_true rfl), (Nat.le_of_ble_eq_true rfl)⟩) (fun _ => rfl) (fun r_44 _ h_44 => ?_)
          obtain rfl := h_44
          refine g_topci 1 (bI_t ⟨nI_pos' (by omega), nI_le (b := 3) (by omega) (by omega)⟩) ?_
          refine g_if_eqF C 59 dX4_shelf_47 rfl (by decide) ?_
          refine g_aloadn C dX4_shelf_50 0 rfl rfl ?_
          refine g_get C fx4 w_0 0 8 (v := .ref ((B 0) 2)) rfl (by decide) w_3 rfl dX4_shelf_51 ?_
          refine g_iloadn C dX4_shelf_54 3 rfl rfl ?_
          refine g_aldS C 2 (i) (f := (o_sheets o)) rfl rfl (by omega) (by decide) (y := xa) (hsome) dX4_shelf_55 ?_
          refine g_goto C 60 dX4_shelf_56 rfl ?_
          refine g_astq C 3 (j) 33 (f := (o_shelvedRows o)) rfl rfl rfl (by omega) (by decide) dX4_shelf_60 (ow q B ((o_keeps o), (o_rows o), (o_rowCount o), (o_sheets o), (va_up (o_shelvedRows o) j (some xa)), (upd (o_shelvedPeople o) j (-1))) ++ (hw q (B 1) h1 ++ (hw q (B 2) h2 ++ (hw q (B 3) h3 ++ (tw q (B 4) t ++ (sw q (B 5) g ++ (([(xa, .inr (1, [.int so, .ref ya]))] : va_W) ++ (([(ya, aJ (q 3) n f)] : va_W))))))))) rfl ?_
          refine g_iconst C 1 dX4_shelf_61 (by decide) ?_
          exact g_iret C ((upd (o_shelvedPeople o) j (-1)), (va_up (o_shelvedRows o) j (some xa))) hr dX4_shelf_62 (Nat.le_of_ble_eq_true rfl) (Nat.le_of_ble_eq_true rfl) rfl (by have hg_ : shG S x y (nI i) := ⟨c_4, c_13⟩; unfold R_shelf P_shelf Q_shelf; rw [if_pos hg_, if_pos hg_, if_pos hg_, ec]; exact ⟨rfl, by rw [if_neg c_24], rfl⟩)
      · exfalso
        exact absurd (hy.symm.trans c_24) (by decide)
    · refine g_iconst C (-1) dX4_shelf_16 (by decide) ?_
      exact g_iret C ((o_shelvedPeople o), (o_shelvedRows o)) hr dX4_shelf_17 (Nat.le_of_ble_eq_true rfl) (Nat.le_of_ble_eq_true rfl) rfl (by have hn_ : ¬ shG S x y (nI i) := fun h => c_13 h.2; unfold R_shelf P_shelf Q_shelf; rw [if_neg hn_, if_neg hn_, if_neg hn_]; exact ⟨rfl, rfl, rfl⟩)

