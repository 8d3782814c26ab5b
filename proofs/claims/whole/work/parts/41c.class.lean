set_option maxRecDepth 100000 in
set_option maxHeartbeats 4000000 in
theorem k_X4_opera (l : Launch) (D : va_G) (q : Nat → ClassId) (tt : Nat → Nat) (B : Nat → Nat → Nat) (o : OC) (h1 : HC) (h2 : HC) (h3 : HC) (t : TC) (g : GC) (S : Nat → Int32) (N : Nat) (U : Nat → Int32) (n : Nat) (hG : Gd S N) (rS : HR S N h1) (hn : tL t = nI n) (hn2 : n ≤ 200) (hU : TPR (tB t) U n) : MI l D q tt yX4_opera wsX4_opera ({ frames := 9, cells := 0, slots := 0, locals := 198 } : Room) [.ref ((B 0) 0)] (ow q B o ++ (hw q (B 1) h1 ++ (hw q (B 2) h2 ++ (hw q (B 3) h3 ++ (tw q (B 4) t ++ (sw q (B 5) g)))))) (fun (r : Int32) (u : HC × HC × Int32 × Int32 × Int32 × Int32) => r = R_opera U n S ∧ ((opR U n S).1 = 0 → HR (opR U n S).2.2.1 (opR U n S).2.2.2 u.1) ∧ (¬ (opR U n S).1 = 0 → u.1 = h1) ∧ u.2.2.2.2.2 = (if (opR U n S).1 = 0 then 0 else o_rowCount o)) (fun u => (ow q B ((o_keeps o), (o_rows o), u.2.2.2.2.2, (o_sheets o), (o_shelvedRows o), (o_shelvedPeople o)) ++ (hw q (B 1) u.1 ++ (hw q (B 2) u.2.1 ++ (hw q (B 3) h3 ++ (tw q (B 4) (0, (tB t), u.2.2.1, u.2.2.2.1, u.2.2.2.2.1) ++ (sw q (B 5) g))))))) 0 0 := by
  refine MI.of RX4 [(0, .ref ((B 0) 0))] (by decide) rfl rfl (Nat.le_of_ble_eq_true rfl) rfl ?_
  intro p e s m args below meth c A C hr hnm
  have w_0 : ∀ w ∈ u_ws RX4 TX4 11, w ∈ wsX4_opera := by decide +kernel
  have w_1 : Cond.fieldLink RX4 16 (TX4 1).1 (TX4 1).2.1 (TX4 1).2.2.1 ∈ wsX4_opera := by decide +kernel
  have w_2 : Cond.fieldLink RX4 10 (TX4 0).1 (TX4 0).2.1 (TX4 0).2.2.1 ∈ wsX4_opera := by decide +kernel
  have w_3 : ∀ w ∈ u_ws RX0 TX0 11, w ∈ wsX4_opera := by decide +kernel
  have w_4 : Cond.fieldLink RX4 74 (TX0 8).1 (TX0 8).2.1 (TX0 8).2.2.1 ∈ wsX4_opera := by decide +kernel
  have w_5 : Cond.fieldLink RX4 29 (TX4 4).1 (TX4 4).2.1 (TX4 4).2.2.1 ∈ wsX4_opera := by decide +kernel
  have w_6 : ∀ w ∈ u_ws RX3 TX3 5, w ∈ wsX4_opera := by decide +kernel
  have w_7 : Cond.fieldLink RX4 64 (TX3 0).1 (TX3 0).2.1 (TX3 0).2.2.1 ∈ wsX4_opera := by decide +kernel
  have w_8 : Cond.fieldLink RX4 44 (TX4 7).1 (TX4 7).2.1 (TX4 7).2.2.1 ∈ wsX4_opera := by decide +kernel
  have w_9 : Cond.fieldLink RX4 85 (TX0 5).1 (TX0 5).2.1 (TX0 5).2.2.1 ∈ wsX4_opera := by decide +kernel
  have h8 := hG.le
  have hS0 := hG.n
  refine g_aloadn C dX4_opera_0 0 rfl rfl ?_
  refine g_get C fx4 w_0 0 1 (v := .ref ((B 2) 0)) rfl (by decide) w_1 rfl dX4_opera_1 ?_
  refine g_callWv (w1 := (ow q B o ++ (hw q (B 1) h1 ++ (hw q (B 2) h2 ++ (hw q (B 3) h3 ++ (tw q (B 4) t ++ (sw q (B 5) g))))))) (wr := ([0, 1, 2, 3, 4, 5, 6, 7, 8, 9, 10, 11, 12, 21, 22, 23, 24, 25, 26, 27, 28, 29, 30, 31, 32] : List Nat).filterMap (fun i => (ow q B o ++ (hw q (B 1) h1 ++ (hw q (B 2) h2 ++ (hw q (B 3) h3 ++ (tw q (B 4) t ++ (sw q (B 5) g))))))[i]?)) (isC := [13, 14, 15, 16, 17, 18, 19, 20]) (isR := [0, 1, 2, 3, 4, 5, 6, 7, 8, 9, 10, 11, 12, 21, 22, 23, 24, 25, 26, 27, 28, 29, 30, 31, 32]) (pm := [0, 1, 2, 3, 4, 5, 6, 7, 8, 9, 10, 11, 12, 25, 26, 27, 28, 29, 30, 31, 32, 13, 14, 15, 16, 17, 18, 19, 20, 21, 22, 23, 24]) (w1' := (fun _ => (ow q B o ++ (hw q (B 1) h1 ++ (hw q (B 2) ((va_cpy (fun z => tLF.getD z 0) (hL h2) 0 0 4), (hK h2), (hP h2), (hE h2), (hR h2), 0, 0, 0, (hZ h2), (hJ h2), (hH h2)) ++ (hw q (B 3) h3 ++ (tw q (B 4) t ++ (sw q (B 5) g)))))))) C (rd_V C (k_X0_clear l D q tt (B 2) h2 ) gX4_opera_X0_clear rfl rfl rfl 0 ok_X0_clear rfl 0 rfl rfl (rest := []) rfl rfl (Nat.le_of_ble_eq_true rfl) dX4_opera_4 ⟨(Nat.le_of_ble_eq_true rfl), (Nat.le_of_ble_eq_true rfl)⟩ ⟨(Nat.le_of_ble_eq_true rfl), (Nat.le_of_ble_eq_true rfl)⟩) rfl rfl rfl (fun _ => rfl) rfl (fun _ h_4 => ?_)
  refine g_aloadn C dX4_opera_7 0 rfl rfl ?_
  refine g_get C fx4 w_0 0 1 (v := .ref ((B 2) 0)) rfl (by decide) w_1 rfl dX4_opera_8 ?_
  refine g_aloadn C dX4_opera_11 0 rfl rfl ?_
  refine g_get C fx4 w_0 0 0 (v := .ref ((B 1) 0)) rfl (by decide) w_2 rfl dX4_opera_12 ?_
  refine g_get C fx0 w_3 5 8 (v := .int (hZ h1)) rfl (by decide) w_4 rfl dX4_opera_15 ?_
  refine g_put C fx0 w_3 13 8 rfl (by decide) w_4 rfl rfl rfl (Nat.le_of_ble_eq_true rfl) dX4_opera_18 (ow q B o ++ (hw q (B 1) h1 ++ (hw q (B 2) ((va_cpy (fun z => tLF.getD z 0) (hL h2) 0 0 4), (hK h2), (hP h2), (hE h2), (hR h2), 0, 0, 0, (hZ h1), (hJ h2), (hH h2)) ++ (hw q (B 3) h3 ++ (tw q (B 4) t ++ (sw q (B 5) g)))))) rfl ?_
  refine g_aloadn C dX4_opera_21 0 rfl rfl ?_
  refine g_get C fx4 w_0 0 4 (v := .ref ((B 4) 0)) rfl (by decide) w_5 rfl dX4_opera_22 ?_
  refine g_aloadn C dX4_opera_25 0 rfl rfl ?_
  refine g_get C fx4 w_0 0 1 (v := .ref ((B 2) 0)) rfl (by decide) w_1 rfl dX4_opera_26 ?_
  refine g_callWi (w1 := (ow q B o ++ (hw q (B 1) h1 ++ (hw q (B 2) ((va_cpy (fun z => tLF.getD z 0) (hL h2) 0 0 4), (hK h2), (hP h2), (hE h2), (hR h2), 0, 0, 0, (hZ h1), (hJ h2), (hH h2)) ++ (hw q (B 3) h3 ++ (tw q (B 4) t ++ (sw q (B 5) g))))))) (wr := ([0, 1, 2, 3, 4, 5, 6, 7, 8, 9, 10, 11, 12, 21, 22, 23, 24, 25, 26, 27, 28, 31, 32] : List Nat).filterMap (fun i => (ow q B o ++ (hw q (B 1) h1 ++ (hw q (B 2) ((va_cpy (fun z => tLF.getD z 0) (hL h2) 0 0 4), (hK h2), (hP h2), (hE h2), (hR h2), 0, 0, 0, (hZ h1), (hJ h2), (hH h2)) ++ (hw q (B 3) h3 ++ (tw q (B 4) t ++ (sw q (B 5) g))))))[i]?)) (isC := [29, 30, 13, 14, 15, 16, 17, 18, 19, 20]) (isR := [0, 1, 2, 3, 4, 5, 6, 7, 8, 9, 10, 11, 12, 21, 22, 23, 24, 25, 26, 27, 28, 31, 32]) (pm := [0, 1, 2, 3, 4, 5, 6, 7, 8, 9, 10, 11, 12, 25, 26, 27, 28, 29, 30, 31, 32, 13, 14, 15, 16, 17, 18, 19, 20, 23, 24, 21, 22]) (w1' := (fun u_29 => (ow q B o ++ (hw q (B 1) h1 ++ (hw q (B 2) u_29.2.2.2 ++ (hw q (B 3) h3 ++ (tw q (B 4) ((tL t), (tB t), u_29.1, u_29.2.1, u_29.2.2.1) ++ (sw q (B 5) g)))))))) C (rd_V C (k_X3_readInto l D q tt (B 4) t U n (B 2) ((va_cpy (fun z => tLF.getD z 0) (hL h2) 0 0 4), (hK h2), (hP h2), (hE h2), (hR h2), 0, 0, 0, (hZ h1), (hJ h2), (hH h2)) S (by first | assumption | omega) (by first | assumption | omega) (by first | assumption | omega) (hr_bg (fun k hk => cpy_LF hk) rfl rfl rfl rS.z)) gX4_opera_X3_readInto rfl rfl rfl 1 ok_X3_readInto rfl 0 rfl rfl (rest := []) rfl rfl (Nat.le_of_ble_eq_true rfl) dX4_opera_29 ⟨(Nat.le_of_ble_eq_true rfl), (Nat.le_of_ble_eq_true rfl)⟩ ⟨(Nat.le_of_ble_eq_true rfl), (Nat.le_of_ble_eq_true rfl)⟩) rfl rfl rfl (fun _ => rfl) rfl (fun r_29 u_29 h_29 => ?_)
  obtain ⟨e_29, h_29⟩ := h_29
  refine g_wsc (ow q B o ++ (hw q (B 1) h1 ++ (hw q (B 2) u_29.2.2.2 ++ (hw q (B 3) h3 ++ (tw q (B 4) ((tL t), (tB t), u_29.1, u_29.2.1, u_29.2.2.1) ++ (sw q (B 5) g)))))) rfl ?_
  refine g_topci (if (opR U n S).1 = 0 then -1 else nI (opR U n S).2.1) (e_29) ?_
  refine g_istoren C [(1, .int (if (opR U n S).1 = 0 then -1 else nI (opR U n S).2.1)), (0, .ref ((B 0) 0))] dX4_opera_32 rfl (by decide) rfl ?_
  refine g_aloadn C dX4_opera_33 1 rfl rfl ?_
  refine g_get C fx4 w_0 0 4 (v := .ref ((B 4) 0)) rfl (by decide) w_5 rfl dX4_opera_34 ?_
  refine g_iconst C 0 dX4_opera_37 (by decide) ?_
  refine g_put C fx3 w_6 29 0 rfl (by decide) w_7 rfl rfl rfl (Nat.le_of_ble_eq_true rfl) dX4_opera_38 (ow q B o ++ (hw q (B 1) h1 ++ (hw q (B 2) u_29.2.2.2 ++ (hw q (B 3) h3 ++ (tw q (B 4) (0, (tB t), u_29.1, u_29.2.1, u_29.2.2.1) ++ (sw q (B 5) g)))))) rfl ?_
  refine g_iloadn C dX4_opera_41 0 rfl rfl ?_
  refine g_iconst C (-1) dX4_opera_42 (by decide) ?_
  refine g_icmp_eq C 51 dX4_opera_43 rfl (fun c_43 => ?_) (fun c_43 => ?_)
  · refine g_aloadn C dX4_opera_51 1 rfl rfl ?_
    refine g_get C fx4 w_0 0 0 (v := .ref ((B 1) 0)) rfl (by decide) w_2 rfl dX4_opera_52 ?_
    refine g_aloadn C dX4_opera_55 1 rfl rfl ?_
    refine g_get C fx4 w_0 0 1 (v := .ref ((B 2) 0)) rfl (by decide) w_1 rfl dX4_opera_56 ?_
    refine g_callWv (w1 := (ow q B o ++ (hw q (B 1) h1 ++ (hw q (B 2) u_29.2.2.2 ++ (hw q (B 3) h3 ++ (tw q (B 4) (0, (tB t), u_29.1, u_29.2.1, u_29.2.2.1) ++ (sw q (B 5) g))))))) (wr := ([0, 1, 2, 3, 4, 21, 22, 23, 24, 25, 26, 27, 28, 29, 30, 31, 32] : List Nat).filterMap (fun i => (ow q B o ++ (hw q (B 1) h1 ++ (hw q (B 2) u_29.2.2.2 ++ (hw q (B 3) h3 ++ (tw q (B 4) (0, (tB t), u_29.1, u_29.2.1, u_29.2.2.1) ++ (sw q (B 5) g))))))[i]?)) (isC := [5, 6, 7, 8, 9, 10, 11, 12, 13, 14, 15, 16, 17, 18, 19, 20]) (isR := [0, 1, 2, 3, 4, 21, 22, 23, 24, 25, 26, 27, 28, 29, 30, 31, 32]) (pm := [0, 1, 2, 3, 4, 17, 18, 19, 20, 21, 22, 23, 24, 25, 26, 27, 28, 29, 30, 31, 32, 5, 6, 7, 8, 9, 10, 11, 12, 13, 14, 15, 16]) (w1' := (fun u_59 => (ow q B o ++ (hw q (B 1) u_59 ++ (hw q (B 2) u_29.2.2.2 ++ (hw q (B 3) h3 ++ (tw q (B 4) (0, (tB t), u_29.1, u_29.2.1, u_29.2.2.1) ++ (sw q (B 5) g)))))))) C (rd_V C (k_X0_become l D q tt (B 1) (B 2) h1 u_29.2.2.2 ) gX4_opera_X0_become rfl rfl rfl 1 ok_X0_become rfl 0 rfl rfl (rest := []) rfl rfl (Nat.le_of_ble_eq_true rfl) dX4_opera_59 ⟨(Nat.le_of_ble_eq_true rfl), (Nat.le_of_ble_eq_true rfl)⟩ ⟨(Nat.le_of_ble_eq_true rfl), (Nat.le_of_ble_eq_true rfl)⟩) rfl rfl rfl (fun _ => rfl) rfl (fun u_59 h_59 => ?_)
    have bc_59 := h_59
    refine g_aloadn C dX4_opera_62 1 rfl rfl ?_
    refine g_iconst C 0 dX4_opera_63 (by decide) ?_
    refine g_put C fx4 w_0 0 7 rfl (by decide) w_8 rfl rfl rfl (Nat.le_of_ble_eq_true rfl) dX4_opera_64 (ow q B ((o_keeps o), (o_rows o), 0, (o_sheets o), (o_shelvedRows o), (o_shelvedPeople o)) ++ (hw q (B 1) u_59 ++ (hw q (B 2) u_29.2.2.2 ++ (hw q (B 3) h3 ++ (tw q (B 4) (0, (tB t), u_29.1, u_29.2.1, u_29.2.2.1) ++ (sw q (B 5) g)))))) rfl ?_
    refine g_aloadn C dX4_opera_67 1 rfl rfl ?_
    refine g_get C fx4 w_0 0 0 (v := .ref ((B 1) 0)) rfl (by decide) w_2 rfl dX4_opera_68 ?_
    refine g_get C fx0 w_3 5 5 (v := .int (hN u_59)) rfl (by decide) w_9 rfl dX4_opera_71 ?_
    exact g_iret C (u_59, u_29.2.2.2, u_29.1, u_29.2.1, u_29.2.2.1, 0) hr dX4_opera_74 (Nat.le_of_ble_eq_true rfl) (Nat.le_of_ble_eq_true rfl) rfl (by
        have e_ : (opR U n S).1 = 0 := op_m1 hn2 c_43
        unfold R_opera; rw [if_pos e_, if_pos e_]; exact ⟨(bc_59 _ _ (Gd_op e_) (h_29 e_)).n (Gd_op e_), fun _ => bc_59 _ _ (Gd_op e_) (h_29 e_), fun z => absurd e_ z, rfl⟩)
  · refine g_bipush C (-100) dX4_opera_46 (by decide) ?_
    refine g_iloadn C dX4_opera_48 0 rfl rfl ?_
    refine g_isub C dX4_opera_49 ?_
    exact g_iret C (h1, u_29.2.2.2, u_29.1, u_29.2.1, u_29.2.2.1, (o_rowCount o)) hr dX4_opera_50 (Nat.le_of_ble_eq_true rfl) (Nat.le_of_ble_eq_true rfl) rfl (by
        have e_ : ¬ (opR U n S).1 = 0 := fun z => c_43 (if_pos z)
        unfold R_opera; rw [if_neg e_, if_neg e_, if_neg e_]; exact ⟨rfl, fun z => absurd z e_, fun _ => rfl, rfl⟩)

