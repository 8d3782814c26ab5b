set_option maxRecDepth 100000 in
set_option maxHeartbeats 4000000 in
theorem k_X4_act (l : Launch) (D : va_G) (q : Nat → ClassId) (tt : Nat → Nat) (B : Nat → Nat → Nat) (o : OC) (h1 : HC) (h2 : HC) (h3 : HC) (t : TC) (g : GC) (S : Nat → Int32) (N : Nat) (x : Int32) (y : Int32) (z : Int32) (hG : Gd S N) (rS : HR S N h1) : MI l D q tt yX4_act wsX4_act ({ frames := 10, cells := 0, slots := 0, locals := 252 } : Room) [.ref ((B 0) 0), .int x, .int y, .int z] (ow q B o ++ (hw q (B 1) h1 ++ (hw q (B 2) h2 ++ (hw q (B 3) h3 ++ (tw q (B 4) t ++ (sw q (B 5) g)))))) (fun (r : Int32) (u : GC) => r = R_act S (o_shelvedPeople o) (gB g) x y z ∧ gB u = B_act S (o_shelvedPeople o) (gB g) x y z ∧ gN u = nI (C_act S (o_shelvedPeople o) (gB g) x y z)) (fun u => (ow q B o ++ (hw q (B 1) h1 ++ (hw q (B 2) h2 ++ (hw q (B 3) h3 ++ (tw q (B 4) t ++ (sw q (B 5) u))))))) 0 0 := by
  refine MI.of RX4 [(0, .ref ((B 0) 0)), (1, .int x), (2, .int y), (3, .int z)] (by decide) rfl rfl (Nat.le_of_ble_eq_true rfl) rfl ?_
  intro p e s m args below meth c A C hr hnm
  have w_0 : ∀ w ∈ u_ws RX4 TX4 11, w ∈ wsX4_act := by decide +kernel
  have w_1 : Cond.fieldLink RX4 36 (TX4 5).1 (TX4 5).2.1 (TX4 5).2.2.1 ∈ wsX4_act := by decide +kernel
  have w_2 : Cond.fieldLink RX4 57 (TX4 10).1 (TX4 10).2.1 (TX4 10).2.2.1 ∈ wsX4_act := by decide +kernel
  have w_3 : Cond.fieldLink RX4 10 (TX4 0).1 (TX4 0).2.1 (TX4 0).2.2.1 ∈ wsX4_act := by decide +kernel
  have w_4 : ∀ w ∈ u_ws RX0 TX0 11, w ∈ wsX4_act := by decide +kernel
  have w_5 : Cond.fieldLink RX4 120 (TX0 1).1 (TX0 1).2.1 (TX0 1).2.2.1 ∈ wsX4_act := by decide +kernel
  have w_6 : Cond.fieldLink RX4 126 (TX0 3).1 (TX0 3).2.1 (TX0 3).2.2.1 ∈ wsX4_act := by decide +kernel
  have h8 := hG.le
  have hS0 := hG.n
  refine g_aloadn C dX4_act_0 0 rfl rfl ?_
  refine g_get C fx4 w_0 0 5 (v := .ref ((B 5) 0)) rfl (by decide) w_1 rfl dX4_act_1 ?_
  refine g_callWv (w1 := (ow q B o ++ (hw q (B 1) h1 ++ (hw q (B 2) h2 ++ (hw q (B 3) h3 ++ (tw q (B 4) t ++ (sw q (B 5) g))))))) (wr := ([0, 1, 2, 3, 4, 5, 6, 7, 8, 9, 10, 11, 12, 13, 14, 15, 16, 17, 18, 19, 20, 21, 22, 23, 24, 25, 26, 27, 28, 29, 30] : List Nat).filterMap (fun i => (ow q B o ++ (hw q (B 1) h1 ++ (hw q (B 2) h2 ++ (hw q (B 3) h3 ++ (tw q (B 4) t ++ (sw q (B 5) g))))))[i]?)) (isC := [31, 32]) (isR := [0, 1, 2, 3, 4, 5, 6, 7, 8, 9, 10, 11, 12, 13, 14, 15, 16, 17, 18, 19, 20, 21, 22, 23, 24, 25, 26, 27, 28, 29, 30]) (pm := [0, 1, 2, 3, 4, 5, 6, 7, 8, 9, 10, 11, 12, 13, 14, 15, 16, 17, 18, 19, 20, 21, 22, 23, 24, 25, 26, 27, 28, 29, 30, 31, 32]) (w1' := (fun _ => (ow q B o ++ (hw q (B 1) h1 ++ (hw q (B 2) h2 ++ (hw q (B 3) h3 ++ (tw q (B 4) t ++ (sw q (B 5) ((gB g), 0, (gK g), (gU g), (gE g), 0))))))))) C (rd_V C (k_X2_clear l D q tt (B 5) g ) gX4_act_X2_clear rfl rfl rfl 0 ok_X2_clear rfl 0 rfl rfl (rest := []) rfl rfl (Nat.le_of_ble_eq_true rfl) dX4_act_4 ⟨(Nat.le_of_ble_eq_true rfl), (Nat.le_of_ble_eq_true rfl)⟩ ⟨(Nat.le_of_ble_eq_true rfl), (Nat.le_of_ble_eq_true rfl)⟩) rfl rfl rfl (fun _ => rfl) rfl (fun _ h_4 => ?_)
  refine g_iloadn C dX4_act_7 1 rfl rfl ?_
  refine g_call0i C (rd_S C (k_X4_isPlace l D q tt x ) gX4_act_X4_isPlace rfl rfl rfl 1 ok_X4_isPlace (rest := []) rfl rfl (Nat.le_of_ble_eq_true rfl) dX4_act_8 ⟨(Nat.le_of_ble_eq_true rfl), (Nat.le_of_ble_eq_true rfl)⟩ ⟨(Nat.le_of_ble_eq_true rfl), (Nat.le_of_ble_eq_true rfl)⟩) (fun _ => rfl) (fun r_8 _ h_8 => ?_)
  obtain rfl := h_8
  refine g_ifeqE C 23 dX4_act_11 rfl rfl (fun c_11 => ?_) (fun c_11 => ?_)
  · refine g_iconst C 0 dX4_act_23 (by decide) ?_
    exact g_iret C ((gB g), 0, (gK g), (gU g), (gE g), 0) hr dX4_act_24 (Nat.le_of_ble_eq_true rfl) (Nat.le_of_ble_eq_true rfl) rfl (by have hn_ : ¬ acG S (o_shelvedPeople o) x y := fun h => c_11 h.1.1; obtain ⟨h1_, h2_, h3_⟩ := act_N (B := (gB g)) (t := z) hn_; rw [h1_, h2_, h3_]; exact ⟨rfl, rfl, rfl⟩)
  · refine g_iloadn C dX4_act_14 2 rfl rfl ?_
    refine g_iconst C 0 dX4_act_15 (by decide) ?_
    refine g_iconst C 3 dX4_act_16 (by decide) ?_
    refine g_call0i C (rd_S C (k_X4_within l D q tt y 0 3 ) gX4_act_X4_within rfl rfl rfl 3 ok_X4_within (rest := []) rfl rfl (Nat.le_of_ble_eq_true rfl) dX4_act_17 ⟨(Nat.le_of_ble_eq_true rfl), (Nat.le_of_ble_eq_true rfl)⟩ ⟨(Nat.le_of_ble_eq_true rfl), (Nat.le_of_ble_eq_true rfl)⟩) (fun _ => rfl) (fun r_17 _ h_17 => ?_)
    obtain rfl := h_17
    refine g_ifneE C 25 dX4_act_20 rfl rfl (fun c_20 => ?_) (fun c_20 => ?_)
    · obtain ⟨j, hj, ej, ec⟩ := ix_le (n := 3) (by omega) c_11
      refine g_aloadn C dX4_act_25 0 rfl rfl ?_
      refine g_get C fx4 w_0 0 10 (v := .ref ((B 0) 4)) rfl (by decide) w_2 rfl dX4_act_26 ?_
      refine g_iloadn C dX4_act_29 1 rfl rfl ?_
      refine g_topci (nI j) (ej) ?_
      refine g_iald C 4 (j) (f := (o_shelvedPeople o)) rfl rfl (by omega) (by decide) dX4_act_30 ?_
      refine g_istore C [(4, .int ((o_shelvedPeople o) j)), (0, .ref ((B 0) 0)), (1, .int x), (2, .int y), (3, .int z)] dX4_act_31 (by decide) rfl ?_
      refine g_aloadn C dX4_act_33 1 rfl rfl ?_
      refine g_get C fx4 w_0 0 0 (v := .ref ((B 1) 0)) rfl (by decide) w_3 rfl dX4_act_34 ?_
      refine g_iload C dX4_act_37 0 rfl ?_
      refine g_callWi (w1 := (ow q B o ++ (hw q (B 1) h1 ++ (hw q (B 2) h2 ++ (hw q (B 3) h3 ++ (tw q (B 4) t ++ (sw q (B 5) ((gB g), 0, (gK g), (gU g), (gE g), 0)))))))) (wr := ([0, 1, 2, 3, 4, 13, 14, 15, 16, 17, 18, 19, 20, 21, 22, 23, 24, 25, 26, 27, 28, 29, 30, 31, 32] : List Nat).filterMap (fun i => (ow q B o ++ (hw q (B 1) h1 ++ (hw q (B 2) h2 ++ (hw q (B 3) h3 ++ (tw q (B 4) t ++ (sw q (B 5) ((gB g), 0, (gK g), (gU g), (gE g), 0)))))))[i]?)) (isC := [5, 6, 7, 8, 9, 10, 11, 12]) (isR := [0, 1, 2, 3, 4, 13, 14, 15, 16, 17, 18, 19, 20, 21, 22, 23, 24, 25, 26, 27, 28, 29, 30, 31, 32]) (pm := [0, 1, 2, 3, 4, 25, 26, 27, 28, 29, 30, 31, 32, 5, 6, 7, 8, 9, 10, 11, 12, 13, 14, 15, 16, 17, 18, 19, 20, 21, 22, 23, 24]) (w1' := (fun _ => (ow q B o ++ (hw q (B 1) h1 ++ (hw q (B 2) h2 ++ (hw q (B 3) h3 ++ (tw q (B 4) t ++ (sw q (B 5) ((gB g), 0, (gK g), (gU g), (gE g), 0))))))))) C (rd_V C (k_X0_has l D q tt (B 1) h1 S N ((o_shelvedPeople o) j) (by first | assumption | omega) (by first | assumption | omega)) gX4_act_X0_has rfl rfl rfl 1 ok_X0_has rfl 0 rfl rfl (rest := []) rfl rfl (Nat.le_of_ble_eq_true rfl) dX4_act_39 ⟨(Nat.le_of_ble_eq_true rfl), (Nat.le_of_ble_eq_true rfl)⟩ ⟨(Nat.le_of_ble_eq_true rfl), (Nat.le_of_ble_eq_true rfl)⟩) rfl rfl rfl (fun _ => rfl) rfl (fun r_39 _ h_39 => ?_)
      obtain rfl := h_39
      refine g_ifneE C 47 dX4_act_42 rfl rfl (fun c_42 => ?_) (fun c_42 => ?_)
      · obtain ⟨d, hd, ed, ecd⟩ := ix_lt (by omega) c_42
        obtain ⟨kd, hk5, hkd_⟩ := (hG.one hd).1
        have hd8 : d < 8 := by omega
        have hpp_ : (o_shelvedPeople o) x.toNatClampNeg = nI d := by rw [ec]; exact ed
        have hA_ : acG S (o_shelvedPeople o) x y := ⟨⟨c_11, c_20⟩, by rw [hpp_, hS0, ← ed]; exact c_42⟩
        refine g_aloadn C dX4_act_47 1 rfl rfl ?_
        refine g_get C fx4 w_0 0 5 (v := .ref ((B 5) 0)) rfl (by decide) w_1 rfl dX4_act_48 ?_
        refine g_aloadn C dX4_act_51 1 rfl rfl ?_
        by_cases p_75_0 : y = 0
        · refine g_get C fx4 w_0 0 0 (v := .ref ((B 1) 0)) rfl (by decide) w_3 rfl dX4_act_52 ?_
          refine g_get C fx0 w_4 5 1 (v := .ref ((B 1) 2)) rfl (by decide) w_5 rfl dX4_act_55 ?_
          refine g_iload C dX4_act_58 0 rfl ?_
          refine g_topci (nI d) (ed) ?_
          refine g_iald C 7 (d) (f := (hK h1)) rfl rfl (by omega) (by decide) dX4_act_60 ?_
          refine g_topci (sK S d) (rS.K (by omega)) ?_
          refine g_topci (nI kd) (hkd_) ?_
          refine g_iload C dX4_act_61 0 rfl ?_
          refine g_topci (nI d) (ed) ?_
          refine g_aloadn C dX4_act_63 1 rfl rfl ?_
          refine g_get C fx4 w_0 0 0 (v := .ref ((B 1) 0)) rfl (by decide) w_3 rfl dX4_act_64 ?_
          refine g_get C fx0 w_4 5 3 (v := .ref ((B 1) 4)) rfl (by decide) w_6 rfl dX4_act_67 ?_
          refine g_iload C dX4_act_70 0 rfl ?_
          refine g_topci (nI d) (ed) ?_
          refine g_iald C 9 (d) (f := (hE h1)) rfl rfl (by omega) (by decide) dX4_act_72 ?_
          refine g_topci (sE S d) (rS.E (by omega)) ?_
          refine g_iloadn C dX4_act_73 3 rfl rfl ?_
          refine g_topci 0 (p_75_0) ?_
          refine g_iloadn C dX4_act_74 4 rfl rfl ?_
          refine g_callWi (w1 := (ow q B o ++ (hw q (B 1) h1 ++ (hw q (B 2) h2 ++ (hw q (B 3) h3 ++ (tw q (B 4) t ++ (sw q (B 5) ((gB g), 0, (gK g), (gU g), (gE g), 0)))))))) (wr := ([0, 1, 2, 3, 4, 5, 6, 7, 8, 9, 10, 11, 12, 13, 14, 15, 16, 17, 18, 19, 20, 21, 22, 23, 24, 25, 26, 27, 28, 29, 30] : List Nat).filterMap (fun i => (ow q B o ++ (hw q (B 1) h1 ++ (hw q (B 2) h2 ++ (hw q (B 3) h3 ++ (tw q (B 4) t ++ (sw q (B 5) ((gB g), 0, (gK g), (gU g), (gE g), 0)))))))[i]?)) (isC := [31, 32]) (isR := [0, 1, 2, 3, 4, 5, 6, 7, 8, 9, 10, 11, 12, 13, 14, 15, 16, 17, 18, 19, 20, 21, 22, 23, 24, 25, 26, 27, 28, 29, 30]) (pm := [0, 1, 2, 3, 4, 5, 6, 7, 8, 9, 10, 11, 12, 13, 14, 15, 16, 17, 18, 19, 20, 21, 22, 23, 24, 25, 26, 27, 28, 29, 30, 31, 32]) (w1' := (fun _ => (ow q B o ++ (hw q (B 1) h1 ++ (hw q (B 2) h2 ++ (hw q (B 3) h3 ++ (tw q (B 4) t ++ (sw q (B 5) (((aCo (nI d) kd z ((gB g), 0)).2.1), (nI (aCo (nI d) kd z ((gB g), 0)).2.2), (nI kd), (nI d), (sE S d), 0))))))))) C (rd_V C (k_play0 l D q tt (B 5) ((gB g), 0, (gK g), (gU g), (gE g), 0) 0 kd (nI d) (sE S d) z rfl (Nat.zero_le 30) hk5 rfl) gX4_act_X2_play rfl rfl rfl 5 ok_X2_play rfl 0 rfl rfl (rest := []) rfl rfl (Nat.le_of_ble_eq_true rfl) dX4_act_75 ⟨(Nat.le_of_ble_eq_true rfl), (Nat.le_of_ble_eq_true rfl)⟩ ⟨(Nat.le_of_ble_eq_true rfl), (Nat.le_of_ble_eq_true rfl)⟩) rfl rfl rfl (fun _ => rfl) rfl (fun r_75 _ h_75 => ?_)
          obtain rfl := h_75
          refine g_wsc (ow q B o ++ (hw q (B 1) h1 ++ (hw q (B 2) h2 ++ (hw q (B 3) h3 ++ (tw q (B 4) t ++ (sw q (B 5) (((aCo (nI d) kd z ((gB g), 0)).2.1), (nI (aCo (nI d) kd z ((gB g), 0)).2.2), (nI kd), (nI d), (sE S d), 0))))))) rfl ?_
          refine g_topci ((aCo (nI d) kd z ((gB g), 0)).1) rfl ?_
          exact g_iret C (((aCo (nI d) kd z ((gB g), 0)).2.1), (nI (aCo (nI d) kd z ((gB g), 0)).2.2), (nI kd), (nI d), (sE S d), 0) hr dX4_act_78 (Nat.le_of_ble_eq_true rfl) (Nat.le_of_ble_eq_true rfl) rfl (by obtain ⟨h1_, h2_, h3_⟩ := act_R (t := z) (B := (gB g)) hA_ hpp_ hd8 hk5 hkd_; rw [h1_, h2_, h3_]; unfold acS; rw [if_pos p_75_0]; exact ⟨(if_pos rfl).symm, rfl, rfl⟩)
        · refine g_get C fx4 w_0 0 0 (v := .ref ((B 1) 0)) rfl (by decide) w_3 rfl dX4_act_52 ?_
          by_cases p_75_1 : y = 1
          · refine g_get C fx0 w_4 5 1 (v := .ref ((B 1) 2)) rfl (by decide) w_5 rfl dX4_act_55 ?_
            refine g_iload C dX4_act_58 0 rfl ?_
            refine g_topci (nI d) (ed) ?_
            refine g_iald C 7 (d) (f := (hK h1)) rfl rfl (by omega) (by decide) dX4_act_60 ?_
            refine g_topci (sK S d) (rS.K (by omega)) ?_
            refine g_topci (nI kd) (hkd_) ?_
            refine g_iload C dX4_act_61 0 rfl ?_
            refine g_topci (nI d) (ed) ?_
            refine g_aloadn C dX4_act_63 1 rfl rfl ?_
            refine g_get C fx4 w_0 0 0 (v := .ref ((B 1) 0)) rfl (by decide) w_3 rfl dX4_act_64 ?_
            refine g_get C fx0 w_4 5 3 (v := .ref ((B 1) 4)) rfl (by decide) w_6 rfl dX4_act_67 ?_
            refine g_iload C dX4_act_70 0 rfl ?_
            refine g_topci (nI d) (ed) ?_
            refine g_iald C 9 (d) (f := (hE h1)) rfl rfl (by omega) (by decide) dX4_act_72 ?_
            refine g_topci (sE S d) (rS.E (by omega)) ?_
            refine g_iloadn C dX4_act_73 3 rfl rfl ?_
            refine g_topci 1 (p_75_1) ?_
            refine g_iloadn C dX4_act_74 4 rfl rfl ?_
            refine g_callWi (w1 := (ow q B o ++ (hw q (B 1) h1 ++ (hw q (B 2) h2 ++ (hw q (B 3) h3 ++ (tw q (B 4) t ++ (sw q (B 5) ((gB g), 0, (gK g), (gU g), (gE g), 0)))))))) (wr := ([0, 1, 2, 3, 4, 5, 6, 7, 8, 9, 10, 11, 12, 13, 14, 15, 16, 17, 18, 19, 20, 21, 22, 23, 24, 25, 26, 27, 28, 29, 30] : List Nat).filterMap (fun i => (ow q B o ++ (hw q (B 1) h1 ++ (hw q (B 2) h2 ++ (hw q (B 3) h3 ++ (tw q (B 4) t ++ (sw q (B 5) ((gB g), 0, (gK g), (gU g), (gE g), 0)))))))[i]?)) (isC := [31, 32]) (isR := [0, 1, 2, 3, 4, 5, 6, 7, 8, 9, 10, 11, 12, 13, 14, 15, 16, 17, 18, 19, 20, 21, 22, 23, 24, 25, 26, 27, 28, 29, 30]) (pm := [0, 1, 2, 3, 4, 5, 6, 7, 8, 9, 10, 11, 12, 13, 14, 15, 16, 17, 18, 19, 20, 21, 22, 23, 24, 25, 26, 27, 28, 29, 30, 31, 32]) (w1' := (fun _ => (ow q B o ++ (hw q (B 1) h1 ++ (hw q (B 2) h2 ++ (hw q (B 3) h3 ++ (tw q (B 4) t ++ (sw q (B 5) (((aLa (nI d) (sE S d) kd z ((gB g), 0)).2.1), (nI (aLa (nI d) (sE S d) kd z ((gB g), 0)).2.2), (nI kd), (nI d), (sE S d), 0))))))))) C (rd_V C (k_play1 l D q tt (B 5) ((gB g), 0, (gK g), (gU g), (gE g), 0) 0 kd (nI d) (sE S d) z rfl (Nat.zero_le 30) hk5 rfl) gX4_act_X2_play rfl rfl rfl 5 ok_X2_play rfl 0 rfl rfl (rest := []) rfl rfl (Nat.le_of_ble_eq_true rfl) dX4_act_75 ⟨(Nat.le_of_ble_eq_true rfl), (Nat.le_of_ble_eq_true rfl)⟩ ⟨(Nat.le_of_ble_eq_true rfl), (Nat.le_of_ble_eq_true rfl)⟩) rfl rfl rfl (fun _ => rfl) rfl (fun r_75 _ h_75 => ?_)
            obtain rfl := h_75
            refine g_wsc (ow q B o ++ (hw q (B 1) h1 ++ (hw q (B 2) h2 ++ (hw q (B 3) h3 ++ (tw q (B 4) t ++ (sw q (B 5) (((aLa (nI d) (sE S d) kd z ((gB g), 0)).2.1), (nI (aLa (nI d) (sE S d) kd z ((gB g), 0)).2.2), (nI kd), (nI d), (sE S d), 0))))))) rfl ?_
            refine g_topci ((aLa (nI d) (sE S d) kd z ((gB g), 0)).1) rfl ?_
            exact g_iret C (((aLa (nI d) (sE S d) kd z ((gB g), 0)).2.1), (nI (aLa (nI d) (sE S d) kd z ((gB g), 0)).2.2), (nI kd), (nI d), (sE S d), 0) hr dX4_act_78 (Nat.le_of_ble_eq_true rfl) (Nat.le_of_ble_eq_true rfl) rfl (by obtain ⟨h1_, h2_, h3_⟩ := act_R (t := z) (B := (gB g)) hA_ hpp_ hd8 hk5 hkd_; rw [h1_, h2_, h3_]; unfold acS; rw [if_neg p_75_0, if_pos p_75_1]; exact ⟨(if_pos rfl).symm, rfl, rfl⟩)
          · refine g_get C fx0 w_4 5 1 (v := .ref ((B 1) 2)) rfl (by decide) w_5 rfl dX4_act_55 ?_
            by_cases p_75_2 : y = 2
            · refine g_iload C dX4_act_58 0 rfl ?_
              refine g_topci (nI d) (ed) ?_
              refine g_iald C 7 (d) (f := (hK h1)) rfl rfl (by omega) (by decide) dX4_act_60 ?_
              refine g_topci (sK S d) (rS.K (by omega)) ?_
              refine g_topci (nI kd) (hkd_) ?_
              refine g_iload C dX4_act_61 0 rfl ?_
              refine g_topci (nI d) (ed) ?_
              refine g_aloadn C dX4_act_63 1 rfl rfl ?_
              refine g_get C fx4 w_0 0 0 (v := .ref ((B 1) 0)) rfl (by decide) w_3 rfl dX4_act_64 ?_
              refine g_get C fx0 w_4 5 3 (v := .ref ((B 1) 4)) rfl (by decide) w_6 rfl dX4_act_67 ?_
              refine g_iload C dX4_act_70 0 rfl ?_
              refine g_topci (nI d) (ed) ?_
              refine g_iald C 9 (d) (f := (hE h1)) rfl rfl (by omega) (by decide) dX4_act_72 ?_
              refine g_topci (sE S d) (rS.E (by omega)) ?_
              refine g_iloadn C dX4_act_73 3 rfl rfl ?_
              refine g_topci 2 (p_75_2) ?_
              refine g_iloadn C dX4_act_74 4 rfl rfl ?_
              refine g_callWi (w1 := (ow q B o ++ (hw q (B 1) h1 ++ (hw q (B 2) h2 ++ (hw q (B 3) h3 ++ (tw q (B 4) t ++ (sw q (B 5) ((gB g), 0, (gK g), (gU g), (gE g), 0)))))))) (wr := ([0, 1, 2, 3, 4, 5, 6, 7, 8, 9, 10, 11, 12, 13, 14, 15, 16, 17, 18, 19, 20, 21, 22, 23, 24, 25, 26, 27, 28, 29, 30] : List Nat).filterMap (fun i => (ow q B o ++ (hw q (B 1) h1 ++ (hw q (B 2) h2 ++ (hw q (B 3) h3 ++ (tw q (B 4) t ++ (sw q (B 5) ((gB g), 0, (gK g), (gU g), (gE g), 0)))))))[i]?)) (isC := [31, 32]) (isR := [0, 1, 2, 3, 4, 5, 6, 7, 8, 9, 10, 11, 12, 13, 14, 15, 16, 17, 18, 19, 20, 21, 22, 23, 24, 25, 26, 27, 28, 29, 30]) (pm := [0, 1, 2, 3, 4, 5, 6, 7, 8, 9, 10, 11, 12, 13, 14, 15, 16, 17, 18, 19, 20, 21, 22, 23, 24, 25, 26, 27, 28, 29, 30, 31, 32]) (w1' := (fun _ => (ow q B o ++ (hw q (B 1) h1 ++ (hw q (B 2) h2 ++ (hw q (B 3) h3 ++ (tw q (B 4) t ++ (sw q (B 5) (((aPa (nI d) (sE S d) kd z ((gB g), 0)).2.1.1), (nI (aPa (nI d) (sE S d) kd z ((gB g), 0)).2.1.2), (nI kd), (nI d), (sE S d), ((aPa (nI d) (sE S d) kd z ((gB g), 0)).2.2)))))))))) C (rd_V C (k_play2 l D q tt (B 5) ((gB g), 0, (gK g), (gU g), (gE g), 0) 0 kd (nI d) (sE S d) z rfl (Nat.zero_le 30) hk5 rfl) gX4_act_X2_play rfl rfl rfl 5 ok_X2_play rfl 0 rfl rfl (rest := []) rfl rfl (Nat.le_of_ble_eq_true rfl) dX4_act_75 ⟨(Nat.le_of_ble_eq_true rfl), (Nat.le_of_ble_eq_true rfl)⟩ ⟨(Nat.le_of_ble_eq_true rfl), (Nat.le_of_ble_eq_true rfl)⟩) rfl rfl rfl (fun _ => rfl) rfl (fun r_75 _ h_75 => ?_)
              obtain rfl := h_75
              refine g_wsc (ow q B o ++ (hw q (B 1) h1 ++ (hw q (B 2) h2 ++ (hw q (B 3) h3 ++ (tw q (B 4) t ++ (sw q (B 5) (((aPa (nI d) (sE S d) kd z ((gB g), 0)).2.1.1), (nI (aPa (nI d) (sE S d) kd z ((gB g), 0)).2.1.2), (nI kd), (nI d), (sE S d), ((aPa (nI d) (sE S d) kd z ((gB g), 0)).2.2)))))))) rfl ?_
              refine g_topci (if (aPa (nI d) (sE S d) kd z ((gB g), 0)).2.2 = 0 then (aPa (nI d) (sE S d) kd z ((gB g), 0)).1 else (-15)) rfl ?_
              exact g_iret C (((aPa (nI d) (sE S d) kd z ((gB g), 0)).2.1.1), (nI (aPa (nI d) (sE S d) kd z ((gB g), 0)).2.1.2), (nI kd), (nI d), (sE S d), ((aPa (nI d) (sE S d) kd z ((gB g), 0)).2.2)) hr dX4_act_78 (Nat.le_of_ble_eq_true rfl) (Nat.le_of_ble_eq_true rfl) rfl (by obtain ⟨h1_, h2_, h3_⟩ := act_R (t := z) (B := (gB g)) hA_ hpp_ hd8 hk5 hkd_; rw [h1_, h2_, h3_]; unfold acS; rw [if_neg p_75_0, if_neg p_75_1, if_pos p_75_2]; exact ⟨rfl, rfl, rfl⟩)
            · refine g_iload C dX4_act_58 0 rfl ?_
              refine g_topci (nI d) (ed) ?_
              refine g_iald C 7 (d) (f := (hK h1)) rfl rfl (by omega) (by decide) dX4_act_60 ?_
              refine g_topci (sK S d) (rS.K (by omega)) ?_
              refine g_topci (nI kd) (hkd_) ?_
              refine g_iload C dX4_act_61 0 rfl ?_
              refine g_topci (nI d) (ed) ?_
              refine g_aloadn C dX4_act_63 1 rfl rfl ?_
              refine g_get C fx4 w_0 0 0 (v := .ref ((B 1) 0)) rfl (by decide) w_3 rfl dX4_act_64 ?_
              refine g_get C fx0 w_4 5 3 (v := .ref ((B 1) 4)) rfl (by decide) w_6 rfl dX4_act_67 ?_
              have hy3 : y = 3 := (by
                    obtain ⟨i, hi, ei, -⟩ := ix_le (n := 3) (by omega) c_20
                    have h4 : i = 0 ∨ i = 1 ∨ i = 2 ∨ i = 3 := by omega
                    rcases h4 with rfl | rfl | rfl | rfl
                    · exact absurd ei p_75_0
                    · exact absurd ei p_75_1
                    · exact absurd ei p_75_2
                    · exact ei)
              refine g_iload C dX4_act_70 0 rfl ?_
              refine g_topci (nI d) (ed) ?_
              refine g_iald C 9 (d) (f := (hE h1)) rfl rfl (by omega) (by decide) dX4_act_72 ?_
              refine g_topci (sE S d) (rS.E (by omega)) ?_
              refine g_iloadn C dX4_act_73 3 rfl rfl ?_
              refine g_topci 3 (hy3) ?_
              refine g_iloadn C dX4_act_74 4 rfl rfl ?_
              refine g_callWi (w1 := (ow q B o ++ (hw q (B 1) h1 ++ (hw q (B 2) h2 ++ (hw q (B 3) h3 ++ (tw q (B 4) t ++ (sw q (B 5) ((gB g), 0, (gK g), (gU g), (gE g), 0)))))))) (wr := ([0, 1, 2, 3, 4, 5, 6, 7, 8, 9, 10, 11, 12, 13, 14, 15, 16, 17, 18, 19, 20, 21, 22, 23, 24, 25, 26, 27, 28, 29, 30] : List Nat).filterMap (fun i => (ow q B o ++ (hw q (B 1) h1 ++ (hw q (B 2) h2 ++ (hw q (B 3) h3 ++ (tw q (B 4) t ++ (sw q (B 5) ((gB g), 0, (gK g), (gU g), (gE g), 0)))))))[i]?)) (isC := [31, 32]) (isR := [0, 1, 2, 3, 4, 5, 6, 7, 8, 9, 10, 11, 12, 13, 14, 15, 16, 17, 18, 19, 20, 21, 22, 23, 24, 25, 26, 27, 28, 29, 30]) (pm := [0, 1, 2, 3, 4, 5, 6, 7, 8, 9, 10, 11, 12, 13, 14, 15, 16, 17, 18, 19, 20, 21, 22, 23, 24, 25, 26, 27, 28, 29, 30, 31, 32]) (w1' := (fun _ => (ow q B o ++ (hw q (B 1) h1 ++ (hw q (B 2) h2 ++ (hw q (B 3) h3 ++ (tw q (B 4) t ++ (sw q (B 5) (((aRi (nI d) (sE S d) kd z ((gB g), 0)).2.1.1), (nI (aRi (nI d) (sE S d) kd z ((gB g), 0)).2.1.2), (nI kd), (nI d), (sE S d), ((aRi (nI d) (sE S d) kd z ((gB g), 0)).2.2)))))))))) C (rd_V C (k_play3 l D q tt (B 5) ((gB g), 0, (gK g), (gU g), (gE g), 0) 0 kd (nI d) (sE S d) z rfl (Nat.zero_le 30) hk5 rfl) gX4_act_X2_play rfl rfl rfl 5 ok_X2_play rfl 0 rfl rfl (rest := []) rfl rfl (Nat.le_of_ble_eq_true rfl) dX4_act_75 ⟨(Nat.le_of_ble_eq_true rfl), (Nat.le_of_ble_eq_true rfl)⟩ ⟨(Nat.le_of_ble_eq_true rfl), (Nat.le_of_ble_eq_true rfl)⟩) rfl rfl rfl (fun _ => rfl) rfl (fun r_75 _ h_75 => ?_)
              obtain rfl := h_75
              refine g_wsc (ow q B o ++ (hw q (B 1) h1 ++ (hw q (B 2) h2 ++ (hw q (B 3) h3 ++ (tw q (B 4) t ++ (sw q (B 5) (((aRi (nI d) (sE S d) kd z ((gB g), 0)).2.1.1), (nI (aRi (nI d) (sE S d) kd z ((gB g), 0)).2.1.2), (nI kd), (nI d), (sE S d), ((aRi (nI d) (sE S d) kd z ((gB g), 0)).2.2)))))))) rfl ?_
              refine g_topci (if (aRi (nI d) (sE S d) kd z ((gB g), 0)).2.2 = 0 then (aRi (nI d) (sE S d) kd z ((gB g), 0)).1 else (-15)) rfl ?_
              exact g_iret C (((aRi (nI d) (sE S d) kd z ((gB g), 0)).2.1.1), (nI (aRi (nI d) (sE S d) kd z ((gB g), 0)).2.1.2), (nI kd), (nI d), (sE S d), ((aRi (nI d) (sE S d) kd z ((gB g), 0)).2.2)) hr dX4_act_78 (Nat.le_of_ble_eq_true rfl) (Nat.le_of_ble_eq_true rfl) rfl (by obtain ⟨h1_, h2_, h3_⟩ := act_R (t := z) (B := (gB g)) hA_ hpp_ hd8 hk5 hkd_; rw [h1_, h2_, h3_]; unfold acS; rw [if_neg p_75_0, if_neg p_75_1, if_neg p_75_2]; exact ⟨rfl, rfl, rfl⟩)
      · refine g_iconst C 0 dX4_act_45 (by decide) ?_
        exact g_iret C ((gB g), 0, (gK g), (gU g), (gE g), 0) hr dX4_act_46 (Nat.le_of_ble_eq_true rfl) (Nat.le_of_ble_eq_true rfl) rfl (by have hn_ : ¬ acG S (o_shelvedPeople o) x y := fun h => c_42 (by have h_ := h.2; rw [hS0, ec] at h_; exact h_); obtain ⟨h1_, h2_, h3_⟩ := act_N (B := (gB g)) (t := z) hn_; rw [h1_, h2_, h3_]; exact ⟨rfl, rfl, rfl⟩)
    · refine g_iconst C 0 dX4_act_23 (by decide) ?_
      exact g_iret C ((gB g), 0, (gK g), (gU g), (gE g), 0) hr dX4_act_24 (Nat.le_of_ble_eq_true rfl) (Nat.le_of_ble_eq_true rfl) rfl (by have hn_ : ¬ acG S (o_shelvedPeople o) x y := fun h => c_20 h.1.2; obtain ⟨h1_, h2_, h3_⟩ := act_N (B := (gB g)) (t := z) hn_; rw [h1_, h2_, h3_]; exact ⟨rfl, rfl, rfl⟩)

