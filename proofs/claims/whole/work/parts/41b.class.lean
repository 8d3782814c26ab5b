set_option maxRecDepth 100000 in
set_option maxHeartbeats 4000000 in
theorem k_X4_feed (l : Launch) (D : va_G) (q : Nat → ClassId) (tt : Nat → Nat) (B : Nat → Nat → Nat) (o : OC) (h1 : HC) (h2 : HC) (h3 : HC) (t : TC) (g : GC) (U : Nat → Int32) (n : Nat) (x : Int64) (y : Int32) (hn : tL t = nI n) (hn2 : n ≤ 200) (hU : TPR (tB t) U n) : MI l D q tt yX4_feed wsX4_feed ({ frames := 1, cells := 0, slots := 0, locals := 24 } : Room) [.ref ((B 0) 0), .long x, .int y] (ow q B o ++ (hw q (B 1) h1 ++ (hw q (B 2) h2 ++ (hw q (B 3) h3 ++ (tw q (B 4) t ++ (sw q (B 5) g)))))) (fun (r : Int32) (u : Int32 × (Nat → Int32)) => r = R_feed n y ∧ u.1 = nI (N_feed n y) ∧ TPR u.2 (T_feed U n x y) (N_feed n y)) (fun u => (ow q B o ++ (hw q (B 1) h1 ++ (hw q (B 2) h2 ++ (hw q (B 3) h3 ++ (tw q (B 4) (u.1, u.2, (tS t), (tF t), (tE t)) ++ (sw q (B 5) g))))))) 0 0 := by
  refine MI.of RX4 [(0, .ref ((B 0) 0)), (1, .long x), (3, .int y)] (by decide) rfl rfl (Nat.le_of_ble_eq_true rfl) rfl ?_
  intro p e s m args below meth c A C hr hnm
  have w_0 : ∀ w ∈ u_ws RX4 TX4 11, w ∈ wsX4_feed := by decide +kernel
  have w_1 : Cond.fieldLink RX4 29 (TX4 4).1 (TX4 4).2.1 (TX4 4).2.2.1 ∈ wsX4_feed := by decide +kernel
  have w_2 : ∀ w ∈ u_ws RX3 TX3 5, w ∈ wsX4_feed := by decide +kernel
  have w_3 : Cond.fieldLink RX4 64 (TX3 0).1 (TX3 0).2.1 (TX3 0).2.2.1 ∈ wsX4_feed := by decide +kernel
  refine g_iloadn C dX4_feed_0 2 rfl rfl ?_
  refine g_iconst C 1 dX4_feed_1 (by decide) ?_
  refine g_bipush C 8 dX4_feed_2 (by decide) ?_
  refine g_call0i C (rd_S C (k_X4_within l D q tt y 1 8 ) gX4_feed_X4_within rfl rfl rfl 3 ok_X4_within (rest := []) rfl rfl (Nat.le_of_ble_eq_true rfl) dX4_feed_4 ⟨(Nat.le_of_ble_eq_true rfl), (Nat.le_of_ble_eq_true rfl)⟩ ⟨(Nat.le_of_ble_eq_true rfl), (Nat.le_of_ble_eq_true rfl)⟩) (fun _ => rfl) (fun r_4 _ h_4 => ?_)
  obtain rfl := h_4
  refine g_ifneE C 12 dX4_feed_7 rfl rfl (fun c_7 => ?_) (fun c_7 => ?_)
  · obtain ⟨j, hj, ej, ec⟩ := ix_le (n := 8) (by omega) ⟨Int32.le_trans (by decide) c_7.1, c_7.2⟩
    refine g_aloadn C dX4_feed_12 0 rfl rfl ?_
    refine g_get C fx4 w_0 0 4 (v := .ref ((B 4) 0)) rfl (by decide) w_1 rfl dX4_feed_13 ?_
    refine g_get C fx3 w_2 29 0 (v := .int (tL t)) rfl (by decide) w_3 rfl dX4_feed_16 ?_
    refine g_topci (nI n) (hn) ?_
    refine g_iloadn C dX4_feed_19 2 rfl rfl ?_
    refine g_topci (nI j) (ej) ?_
    refine g_iadd C dX4_feed_20 ?_
    refine g_topci (nI (n + j)) ((ix_add rfl rfl)) ?_
    refine g_sipush C 200 dX4_feed_21 (by decide) ?_
    refine g_icmpN_le C 30 ((n + j)) (200) dX4_feed_24 rfl (by omega) (by omega) (fun c_24 => ?_) (fun c_24 => ?_)
    · have hjn : n + j ≤ 200 := by omega
      refine g_aloadn C dX4_feed_30 0 rfl rfl ?_
      refine g_get C fx4 w_0 0 4 (v := .ref ((B 4) 0)) rfl (by decide) w_1 rfl dX4_feed_31 ?_
      refine g_lloadn C dX4_feed_34 1 rfl rfl ?_
      refine g_iloadn C dX4_feed_35 2 rfl rfl ?_
      refine g_topci (nI j) (ej) ?_
      refine g_callWv (w1 := (ow q B o ++ (hw q (B 1) h1 ++ (hw q (B 2) h2 ++ (hw q (B 3) h3 ++ (tw q (B 4) t ++ (sw q (B 5) g))))))) (wr := ([0, 1, 2, 3, 4, 5, 6, 7, 8, 9, 10, 11, 12, 13, 14, 15, 16, 17, 18, 19, 20, 21, 22, 23, 24, 25, 26, 27, 28, 31, 32] : List Nat).filterMap (fun i => (ow q B o ++ (hw q (B 1) h1 ++ (hw q (B 2) h2 ++ (hw q (B 3) h3 ++ (tw q (B 4) t ++ (sw q (B 5) g))))))[i]?)) (isC := [29, 30]) (isR := [0, 1, 2, 3, 4, 5, 6, 7, 8, 9, 10, 11, 12, 13, 14, 15, 16, 17, 18, 19, 20, 21, 22, 23, 24, 25, 26, 27, 28, 31, 32]) (pm := [0, 1, 2, 3, 4, 5, 6, 7, 8, 9, 10, 11, 12, 13, 14, 15, 16, 17, 18, 19, 20, 21, 22, 23, 24, 25, 26, 27, 28, 31, 32, 29, 30]) (w1' := (fun u_36 => (ow q B o ++ (hw q (B 1) h1 ++ (hw q (B 2) h2 ++ (hw q (B 3) h3 ++ (tw q (B 4) ((nI (n + j)), u_36, (tS t), (tF t), (tE t)) ++ (sw q (B 5) g)))))))) C (rd_V C (k_X3_take l D q tt (B 4) t U n x j (by first | assumption | omega) (by first | assumption | omega) (by first | assumption | omega) (by first | assumption | omega) (by first | assumption | omega)) gX4_feed_X3_take rfl rfl rfl 2 ok_X3_take rfl 0 rfl rfl (rest := []) rfl rfl (Nat.le_of_ble_eq_true rfl) dX4_feed_36 ⟨(Nat.le_of_ble_eq_true rfl), (Nat.le_of_ble_eq_true rfl)⟩ ⟨(Nat.le_of_ble_eq_true rfl), (Nat.le_of_ble_eq_true rfl)⟩) rfl rfl rfl (fun _ => rfl) rfl (fun u_36 h_36 => ?_)
      have tp_36 := h_36
      refine g_aloadn C dX4_feed_39 0 rfl rfl ?_
      refine g_get C fx4 w_0 0 4 (v := .ref ((B 4) 0)) rfl (by decide) w_1 rfl dX4_feed_40 ?_
      refine g_get C fx3 w_2 29 0 (v := .int (nI (n + j))) rfl (by decide) w_3 rfl dX4_feed_43 ?_
      exact g_iret C ((nI (n + j)), u_36) hr dX4_feed_46 (Nat.le_of_ble_eq_true rfl) (Nat.le_of_ble_eq_true rfl) rfl (by unfold R_feed T_feed N_feed; rw [if_pos c_7, ec, if_pos hjn, if_pos ⟨c_7, hjn⟩, if_pos ⟨c_7, hjn⟩]; exact ⟨rfl, rfl, tp_36⟩)
    · have hnj : ¬ n + j ≤ 200 := by omega
      refine g_bipush C (-2) dX4_feed_27 (by decide) ?_
      exact g_iret C ((tL t), (tB t)) hr dX4_feed_29 (Nat.le_of_ble_eq_true rfl) (Nat.le_of_ble_eq_true rfl) rfl (by unfold R_feed T_feed N_feed; rw [if_pos c_7, ec, if_neg hnj, if_neg (fun h => hnj h.2), if_neg (fun h => hnj h.2)]; exact ⟨rfl, hn, hU⟩)
  · refine g_iconst C (-1) dX4_feed_10 (by decide) ?_
    exact g_iret C ((tL t), (tB t)) hr dX4_feed_11 (Nat.le_of_ble_eq_true rfl) (Nat.le_of_ble_eq_true rfl) rfl (by unfold R_feed T_feed N_feed; rw [if_neg c_7, if_neg (fun h => c_7 h.1), if_neg (fun h => c_7 h.1)]; exact ⟨rfl, hn, hU⟩)

