set_option maxRecDepth 100000 in
set_option maxHeartbeats 4000000 in
theorem k_takS (l : Launch) (D : va_G) (q : Nat → ClassId) (tt : Nat → Nat) (B : Nat → Nat → Nat) (o : OC) (h1 : HC) (h2 : HC) (h3 : HC) (t : TC) (g : GC) (S : Nat → Int32) (N : Nat) (xa : Nat) (ya : Nat) (so : Int32) (n : Nat) (f : Nat → Int64) (j : Nat) (y : Int32) (hG : Gd S N) (rS : HR S N h1) (hn : n ≤ 40) (hj : j < 4) (hsome : (o_shelvedRows o) j = some xa) : MI l D q tt yX4_taken wsX4_taken ({ frames := 2, cells := 0, slots := 0, locals := 42 } : Room) [.ref ((B 0) 0), .int (nI j), .int y] (ow q B o ++ (hw q (B 1) h1 ++ (hw q (B 2) h2 ++ (hw q (B 3) h3 ++ (tw q (B 4) t ++ (sw q (B 5) g ++ (([(xa, .inr (1, [.int so, .ref ya]))] : va_W) ++ (([(ya, aJ (q 3) n f)] : va_W))))))))) (fun (r : Int32) (u : Unit) => r = R_takB so n (nI j) y) (fun (_ : Unit) => (ow q B o ++ (hw q (B 1) h1 ++ (hw q (B 2) h2 ++ (hw q (B 3) h3 ++ (tw q (B 4) t ++ (sw q (B 5) g ++ (([(xa, .inr (1, [.int so, .ref ya]))] : va_W) ++ (([(ya, aJ (q 3) n f)] : va_W)))))))))) 0 0 := by
  refine MI.of RX4 [(0, .ref ((B 0) 0)), (1, .int (nI j)), (2, .int y)] (by decide) rfl rfl (Nat.le_of_ble_eq_true rfl) rfl ?_
  intro p e s m args below meth c A C hr hnm
  have w_0 : ∀ w ∈ u_ws RX4 TX4 11, w ∈ wsX4_taken := by decide +kernel
  have w_1 : Cond.fieldLink RX4 54 (TX4 9).1 (TX4 9).2.1 (TX4 9).2.2.1 ∈ wsX4_taken := by decide +kernel
  have w_2 : Cond.fieldLink RX4 57 (TX4 10).1 (TX4 10).2.1 (TX4 10).2.2.1 ∈ wsX4_taken := by decide +kernel
  have w_3 : ∀ w ∈ u_ws RX1 TX1 2, w ∈ wsX4_taken := by decide +kernel
  have w_4 : Cond.fieldLink RX4 235 (TX1 0).1 (TX1 0).2.1 (TX1 0).2.2.1 ∈ wsX4_taken := by decide +kernel
  have w_5 : Cond.fieldLink RX4 213 (TX1 1).1 (TX1 1).2.1 (TX1 1).2.2.1 ∈ wsX4_taken := by decide +kernel
  have h8 := hG.le
  have hS0 := hG.n
  refine g_iloadn C dX4_taken_0 2 rfl rfl ?_
  refine g_bipush C 10 dX4_taken_1 (by decide) ?_
  refine g_isub C dX4_taken_3 ?_
  refine g_iconst C 0 dX4_taken_4 (by decide) ?_
  refine g_iconst C 3 dX4_taken_5 (by decide) ?_
  refine g_call0i C (rd_S C (k_X4_within l D q tt (y - 10) 0 3 ) gX4_taken_X4_within rfl rfl rfl 3 ok_X4_within (rest := []) rfl rfl (Nat.le_of_ble_eq_true rfl) dX4_taken_6 ⟨(Nat.le_of_ble_eq_true rfl), (Nat.le_of_ble_eq_true rfl)⟩ ⟨(Nat.le_of_ble_eq_true rfl), (Nat.le_of_ble_eq_true rfl)⟩) (fun _ => rfl) (fun r_6 _ h_6 => ?_)
  obtain rfl := h_6
  refine g_topci (bI (10 ≤ y ∧ y ≤ 13)) (bI_congr (y10 y)) ?_
  refine g_istoren C [(3, .int (bI (10 ≤ y ∧ y ≤ 13))), (0, .ref ((B 0) 0)), (1, .int (nI j)), (2, .int y)] dX4_taken_9 rfl (by decide) rfl ?_
  refine g_iloadn C dX4_taken_10 2 rfl rfl ?_
  refine g_call0i C (rd_S C (k_X4_isPlace l D q tt (nI j) ) gX4_taken_X4_isPlace rfl rfl rfl 1 ok_X4_isPlace (rest := []) rfl rfl (Nat.le_of_ble_eq_true rfl) dX4_taken_11 ⟨(Nat.le_of_ble_eq_true rfl), (Nat.le_of_ble_eq_true rfl)⟩ ⟨(Nat.le_of_ble_eq_true rfl), (Nat.le_of_ble_eq_true rfl)⟩) (fun _ => rfl) (fun r_11 _ h_11 => ?_)
  obtain rfl := h_11
  refine g_topci 1 (bI_t ⟨nI_pos' (by omega), nI_le (b := 3) (by omega) (by omega)⟩) ?_
  refine g_if_eqF C 28 dX4_taken_14 rfl (by decide) ?_
  refine g_iloadn C dX4_taken_17 0 rfl rfl ?_
  refine g_ifneE C 30 dX4_taken_18 rfl rfl (fun c_18 => ?_) (fun c_18 => ?_)
  · refine g_aloadn C dX4_taken_30 1 rfl rfl ?_
    refine g_get C fx4 w_0 0 9 (v := .ref ((B 0) 3)) rfl (by decide) w_1 rfl dX4_taken_31 ?_
    refine g_iloadn C dX4_taken_34 2 rfl rfl ?_
    refine g_aldS C 3 (j) (f := (o_shelvedRows o)) rfl rfl (by omega) (by decide) (y := xa) (hsome) dX4_taken_35 ?_
    refine g_astore C [(4, .ref xa), (3, .int (bI (10 ≤ y ∧ y ≤ 13))), (0, .ref ((B 0) 0)), (1, .int (nI j)), (2, .int y)] dX4_taken_36 (by decide) rfl ?_
    refine g_aloadn C dX4_taken_38 2 rfl rfl ?_
    refine g_get C fx4 w_0 0 10 (v := .ref ((B 0) 4)) rfl (by decide) w_2 rfl dX4_taken_39 ?_
    refine g_iloadn C dX4_taken_42 3 rfl rfl ?_
    refine g_iald C 4 (j) (f := (o_shelvedPeople o)) rfl rfl (by omega) (by decide) dX4_taken_43 ?_
    refine g_istore C [(5, .int ((o_shelvedPeople o) j)), (4, .ref xa), (3, .int (bI (10 ≤ y ∧ y ≤ 13))), (0, .ref ((B 0) 0)), (1, .int (nI j)), (2, .int y)] dX4_taken_44 (by decide) rfl ?_
    refine g_aload C dX4_taken_46 1 rfl ?_
    refine g_ifnull C dX4_taken_48 ?_
    refine g_iloadn C dX4_taken_51 2 rfl rfl ?_
    refine g_ifeqE C 76 dX4_taken_52 rfl rfl (fun c_52 => ?_) (fun c_52 => ?_)
    · exfalso
      exact c_52 c_18
    · refine g_aload C dX4_taken_55 1 rfl ?_
      refine g_get C fx1 w_3 33 0 (v := .int so) rfl (by decide) w_4 rfl dX4_taken_57 ?_
      refine g_iloadn C dX4_taken_60 5 rfl rfl ?_
      refine g_bipush C 10 dX4_taken_61 (by decide) ?_
      refine g_isub C dX4_taken_63 ?_
      refine g_icmp_ne C 76 dX4_taken_64 rfl (fun c_64 => ?_) (fun c_64 => ?_)
      · refine g_bipush C (-13) dX4_taken_76 (by decide) ?_
        exact g_iret C () hr dX4_taken_78 (Nat.le_of_ble_eq_true rfl) (Nat.le_of_ble_eq_true rfl) rfl (by have hg_ : tkG (nI j) y := ⟨⟨nI_pos' (by omega), nI_le (b := 3) (by omega) (by omega)⟩, Or.inr c_18⟩; unfold R_takB; rw [if_pos hg_, if_neg (fun h => c_64 h.2)])
      · refine g_aload C dX4_taken_67 1 rfl ?_
        refine g_get C fx1 w_3 33 1 (v := .ref ya) rfl (by decide) w_5 rfl dX4_taken_69 ?_
        refine g_alen C 34 (nI n) rfl (t0 := 3) rfl rfl dX4_taken_72 ?_
        refine g_goto C 78 dX4_taken_73 rfl ?_
        exact g_iret C () hr dX4_taken_78 (Nat.le_of_ble_eq_true rfl) (Nat.le_of_ble_eq_true rfl) rfl (by have hg_ : tkG (nI j) y := ⟨⟨nI_pos' (by omega), nI_le (b := 3) (by omega) (by omega)⟩, Or.inr c_18⟩; unfold R_takB; rw [if_pos hg_, if_pos ⟨c_52, c_64⟩])
  · refine g_iloadn C dX4_taken_21 3 rfl rfl ?_
    refine g_call0i C (rd_S C (k_X4_isKind l D q tt y ) gX4_taken_X4_isKind rfl rfl rfl 1 ok_X4_isKind (rest := []) rfl rfl (Nat.le_of_ble_eq_true rfl) dX4_taken_22 ⟨(Nat.le_of_ble_eq_true rfl), (Nat.le_of_ble_eq_true rfl)⟩ ⟨(Nat.le_of_ble_eq_true rfl), (Nat.le_of_ble_eq_true rfl)⟩) (fun _ => rfl) (fun r_22 _ h_22 => ?_)
    obtain rfl := h_22
    refine g_ifneE C 30 dX4_taken_25 rfl rfl (fun c_25 => ?_) (fun c_25 => ?_)
    · refine g_aloadn C dX4_taken_30 1 rfl rfl ?_
      refine g_get C fx4 w_0 0 9 (v := .ref ((B 0) 3)) rfl (by decide) w_1 rfl dX4_taken_31 ?_
      refine g_iloadn C dX4_taken_34 2 rfl rfl ?_
      refine g_aldS C 3 (j) (f := (o_shelvedRows o)) rfl rfl (by omega) (by decide) (y := xa) (hsome) dX4_taken_35 ?_
      refine g_astore C [(4, .ref xa), (3, .int (bI (10 ≤ y ∧ y ≤ 13))), (0, .ref ((B 0) 0)), (1, .int (nI j)), (2, .int y)] dX4_taken_36 (by decide) rfl ?_
      refine g_aloadn C dX4_taken_38 2 rfl rfl ?_
      refine g_get C fx4 w_0 0 10 (v := .ref ((B 0) 4)) rfl (by decide) w_2 rfl dX4_taken_39 ?_
      refine g_iloadn C dX4_taken_42 3 rfl rfl ?_
      refine g_iald C 4 (j) (f := (o_shelvedPeople o)) rfl rfl (by omega) (by decide) dX4_taken_43 ?_
      refine g_istore C [(5, .int ((o_shelvedPeople o) j)), (4, .ref xa), (3, .int (bI (10 ≤ y ∧ y ≤ 13))), (0, .ref ((B 0) 0)), (1, .int (nI j)), (2, .int y)] dX4_taken_44 (by decide) rfl ?_
      refine g_aload C dX4_taken_46 1 rfl ?_
      refine g_ifnull C dX4_taken_48 ?_
      refine g_iloadn C dX4_taken_51 2 rfl rfl ?_
      refine g_ifeqE C 76 dX4_taken_52 rfl rfl (fun c_52 => ?_) (fun c_52 => ?_)
      · refine g_bipush C (-13) dX4_taken_76 (by decide) ?_
        exact g_iret C () hr dX4_taken_78 (Nat.le_of_ble_eq_true rfl) (Nat.le_of_ble_eq_true rfl) rfl (by have hg_ : tkG (nI j) y := ⟨⟨nI_pos' (by omega), nI_le (b := 3) (by omega) (by omega)⟩, Or.inl c_25⟩; unfold R_takB; rw [if_pos hg_, if_neg (fun h => c_52 h.1)])
      · exfalso
        exact c_18 c_52
    · refine g_iconst C (-1) dX4_taken_28 (by decide) ?_
      exact g_iret C () hr dX4_taken_29 (Nat.le_of_ble_eq_true rfl) (Nat.le_of_ble_eq_true rfl) rfl (by have hn_ : ¬ tkG (nI j) y := fun h => (by rcases h.2 with h_ | h_ <;> first | exact c_25 h_ | exact c_18 h_); unfold R_takB; rw [if_neg hn_])

