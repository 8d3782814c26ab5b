set_option maxRecDepth 100000 in
set_option maxHeartbeats 4000000 in
theorem k_X4_firstBehind (l : Launch) (D : va_G) (q : Nat → ClassId) (tt : Nat → Nat) (B : Nat → Nat → Nat) (o : OC) (h1 : HC) (h2 : HC) (h3 : HC) (t : TC) (g : GC) (S : Nat → Int32) (N : Nat) (n : Nat) (f : Int32) (y : Int32) (hG : Gd S N) (rS : HR S N h1) (hn : n ≤ 61) : MI l D q tt yX4_firstBehind wsX4_firstBehind ({ frames := 4, cells := 0, slots := 0, locals := 101 } : Room) [.ref ((B 0) 0), .int (nI n), .int f, .int y] (ow q B o ++ (hw q (B 1) h1 ++ (hw q (B 2) h2 ++ (hw q (B 3) h3 ++ (tw q (B 4) t ++ (sw q (B 5) g)))))) (fun (r : Int32) (u : HC) => r = (fwL S N f y (61 - n) n)) (fun u => (ow q B o ++ (hw q (B 1) h1 ++ (hw q (B 2) u ++ (hw q (B 3) h3 ++ (tw q (B 4) t ++ (sw q (B 5) g))))))) 0 0 := by
  refine MI.of RX4 [(0, .ref ((B 0) 0)), (1, .int (nI n)), (2, .int f), (3, .int y)] (by decide) rfl rfl (Nat.le_of_ble_eq_true rfl) rfl ?_
  intro p e s m args below meth c A C hr hnm
  have w_0 : ∀ w ∈ u_ws RX4 TX4 11, w ∈ wsX4_firstBehind := by decide +kernel
  have w_1 : Cond.fieldLink RX4 16 (TX4 1).1 (TX4 1).2.1 (TX4 1).2.2.1 ∈ wsX4_firstBehind := by decide +kernel
  have w_2 : ∀ w ∈ u_ws RX0 TX0 11, w ∈ wsX4_firstBehind := by decide +kernel
  have w_3 : Cond.fieldLink RX4 152 (TX0 6).1 (TX0 6).2.1 (TX0 6).2.2.1 ∈ wsX4_firstBehind := by decide +kernel
  have h8 := hG.le
  have hS0 := hG.n
  refine g_aloadn C dX4_firstBehind_0 0 rfl rfl ?_
  refine g_callAv C (rd_V C (k_X4_tryFromNow l D q tt B o h1 h2 h3 t g ) gX4_firstBehind_X4_tryFromNow rfl rfl rfl 0 ok_X4_tryFromNow rfl 0 rfl rfl (rest := []) rfl rfl (Nat.le_of_ble_eq_true rfl) dX4_firstBehind_1 ⟨(Nat.le_of_ble_eq_true rfl), (Nat.le_of_ble_eq_true rfl)⟩ ⟨(Nat.le_of_ble_eq_true rfl), (Nat.le_of_ble_eq_true rfl)⟩) (fun u_1 h_1 => ?_)
  have tr_1 := h_1
  refine g_aloadn C dX4_firstBehind_4 0 rfl rfl ?_
  refine g_get C fx4 w_0 0 1 (v := .ref ((B 2) 0)) rfl (by decide) w_1 rfl dX4_firstBehind_5 ?_
  refine g_iloadn C dX4_firstBehind_8 1 rfl rfl ?_
  refine g_callWv (w1 := (ow q B o ++ (hw q (B 1) h1 ++ (hw q (B 2) u_1 ++ (hw q (B 3) h3 ++ (tw q (B 4) t ++ (sw q (B 5) g))))))) (wr := ([0, 1, 2, 3, 4, 5, 6, 7, 8, 9, 10, 11, 12, 21, 22, 23, 24, 25, 26, 27, 28, 29, 30, 31, 32] : List Nat).filterMap (fun i => (ow q B o ++ (hw q (B 1) h1 ++ (hw q (B 2) u_1 ++ (hw q (B 3) h3 ++ (tw q (B 4) t ++ (sw q (B 5) g))))))[i]?)) (isC := [13, 14, 15, 16, 17, 18, 19, 20]) (isR := [0, 1, 2, 3, 4, 5, 6, 7, 8, 9, 10, 11, 12, 21, 22, 23, 24, 25, 26, 27, 28, 29, 30, 31, 32]) (pm := [0, 1, 2, 3, 4, 5, 6, 7, 8, 9, 10, 11, 12, 25, 26, 27, 28, 29, 30, 31, 32, 13, 14, 15, 16, 17, 18, 19, 20, 21, 22, 23, 24]) (w1' := (fun u_9 => (ow q B o ++ (hw q (B 1) h1 ++ (hw q (B 2) u_9 ++ (hw q (B 3) h3 ++ (tw q (B 4) t ++ (sw q (B 5) g)))))))) C (rd_V C (k_X0_pass l D q tt (B 2) u_1 S N n (by first | assumption | omega) (tr_1 S N hG rS) (by first | assumption | omega)) gX4_firstBehind_X0_pass rfl rfl rfl 1 ok_X0_pass rfl 0 rfl rfl (rest := []) rfl rfl (Nat.le_of_ble_eq_true rfl) dX4_firstBehind_9 ⟨(Nat.le_of_ble_eq_true rfl), (Nat.le_of_ble_eq_true rfl)⟩ ⟨(Nat.le_of_ble_eq_true rfl), (Nat.le_of_ble_eq_true rfl)⟩) rfl rfl rfl (fun _ => rfl) rfl (fun u_9 h_9 => ?_)
  have rS_9 := h_9
  refine g_iloadn C dX4_firstBehind_12 1 rfl rfl ?_
  refine g_istore C [(4, .int (nI n)), (0, .ref ((B 0) 0)), (1, .int (nI n)), (2, .int f), (3, .int y)] dX4_firstBehind_13 (by decide) rfl ?_
  have J_15 : ∀ (fu : Nat) (i : Nat) (k : HC), 61 - i < fu → (i ≤ 61) → (HR (gosS S N i) N k) → ((fwL S N f y (61 - n) n) = (fwL S N f y (61 - i) i)) → G p l e ({ frames := 4, cells := 0, slots := 0, locals := 101 } : Room) s m args below meth c 5 D A (MQ below (va_Qi (fun (r : Int32) (u : HC) => r = (fwL S N f y (61 - n) n)) (Bw D A (fun u => (ow q B o ++ (hw q (B 1) h1 ++ (hw q (B 2) u ++ (hw q (B 3) h3 ++ (tw q (B 4) t ++ (sw q (B 5) g)))))))) A) args s 0 0 A) 15 [(0, .ref ((B 0) 0)), (1, .int (nI n)), (2, .int f), (3, .int y), (4, .int (nI i))] [] (ow q B o ++ (hw q (B 1) h1 ++ (hw q (B 2) k ++ (hw q (B 3) h3 ++ (tw q (B 4) t ++ (sw q (B 5) g)))))) 0 0 := by
    intro fu
    induction fu with
    | zero =>
      intro i k hfu
      exact absurd hfu (Nat.not_lt_zero _)
    | succ fu ih =>
      intro i k hfu hi hk hf
      refine g_iload C dX4_firstBehind_15 4 rfl ?_
      refine g_bipush C 60 dX4_firstBehind_17 (by decide) ?_
      refine g_icmpN_gt C 52 (i) (60) dX4_firstBehind_19 rfl (by omega) (by omega) (fun c_19 => ?_) (fun c_19 => ?_)
      · refine g_bipush C (-3) dX4_firstBehind_52 (by decide) ?_
        exact g_iret C k hr dX4_firstBehind_54 (Nat.le_of_ble_eq_true rfl) (Nat.le_of_ble_eq_true rfl) rfl (by first | (exfalso; omega) | (rw [hf]; exact (fw_hit (by omega) c_32).symm) | (rw [hf, show i = 61 by omega]; rfl))
      · refine g_aloadn C dX4_firstBehind_22 0 rfl rfl ?_
        refine g_get C fx4 w_0 0 1 (v := .ref ((B 2) 0)) rfl (by decide) w_1 rfl dX4_firstBehind_23 ?_
        refine g_get C fx0 w_2 13 6 (v := .int (hC k)) rfl (by decide) w_3 rfl dX4_firstBehind_26 ?_
        refine g_topci (clS (gosS S N i) N) (hk.c) ?_
        refine g_iloadn C dX4_firstBehind_29 2 rfl rfl ?_
        refine g_iand C dX4_firstBehind_30 ?_
        refine g_iloadn C dX4_firstBehind_31 3 rfl rfl ?_
        refine g_icmp_ne C 38 dX4_firstBehind_32 rfl (fun c_32 => ?_) (fun c_32 => ?_)
        · refine g_aloadn C dX4_firstBehind_38 0 rfl rfl ?_
          refine g_get C fx4 w_0 0 1 (v := .ref ((B 2) 0)) rfl (by decide) w_1 rfl dX4_firstBehind_39 ?_
          refine g_iconst C 1 dX4_firstBehind_42 (by decide) ?_
          refine g_callWv (w1 := (ow q B o ++ (hw q (B 1) h1 ++ (hw q (B 2) k ++ (hw q (B 3) h3 ++ (tw q (B 4) t ++ (sw q (B 5) g))))))) (wr := ([0, 1, 2, 3, 4, 5, 6, 7, 8, 9, 10, 11, 12, 21, 22, 23, 24, 25, 26, 27, 28, 29, 30, 31, 32] : List Nat).filterMap (fun i => (ow q B o ++ (hw q (B 1) h1 ++ (hw q (B 2) k ++ (hw q (B 3) h3 ++ (tw q (B 4) t ++ (sw q (B 5) g))))))[i]?)) (isC := [13, 14, 15, 16, 17, 18, 19, 20]) (isR := [0, 1, 2, 3, 4, 5, 6, 7, 8, 9, 10, 11, 12, 21, 22, 23, 24, 25, 26, 27, 28, 29, 30, 31, 32]) (pm := [0, 1, 2, 3, 4, 5, 6, 7, 8, 9, 10, 11, 12, 25, 26, 27, 28, 29, 30, 31, 32, 13, 14, 15, 16, 17, 18, 19, 20, 21, 22, 23, 24]) (w1' := (fun u_43 => (ow q B o ++ (hw q (B 1) h1 ++ (hw q (B 2) u_43 ++ (hw q (B 3) h3 ++ (tw q (B 4) t ++ (sw q (B 5) g)))))))) C (rd_V C (k_X0_pass l D q tt (B 2) k (gosS S N i) N 1 (hG.gos i) hk (by first | assumption | omega)) gX4_firstBehind_X0_pass rfl rfl rfl 1 ok_X0_pass rfl 0 rfl rfl (rest := []) rfl rfl (Nat.le_of_ble_eq_true rfl) dX4_firstBehind_43 ⟨(Nat.le_of_ble_eq_true rfl), (Nat.le_of_ble_eq_true rfl)⟩ ⟨(Nat.le_of_ble_eq_true rfl), (Nat.le_of_ble_eq_true rfl)⟩) rfl rfl rfl (fun _ => rfl) rfl (fun u_43 h_43 => ?_)
          have rS_43 := h_43
          refine g_iinc C (nI (i + 1)) [(4, .int (nI (i + 1))), (0, .ref ((B 0) 0)), (1, .int (nI n)), (2, .int f), (3, .int y)] dX4_firstBehind_46 4 rfl (nI_add i 1) (by decide) rfl ?_
          refine g_goto C 15 dX4_firstBehind_49 rfl ?_
          refine g_sub [1, 2, 3, 4, 0] (lv' := [(0, .ref ((B 0) 0)), (1, .int (nI n)), (2, .int f), (3, .int y), (4, .int (nI (i + 1)))]) rfl ?_
          exact ih ((i + 1)) (u_43) (by omega) (by first | assumption | omega) rS_43 (hf.trans (fw_miss (by omega) c_32))
        · refine g_iload C dX4_firstBehind_35 4 rfl ?_
          exact g_iret C k hr dX4_firstBehind_37 (Nat.le_of_ble_eq_true rfl) (Nat.le_of_ble_eq_true rfl) rfl (by first | (exfalso; omega) | (rw [hf]; exact (fw_hit (by omega) c_32).symm) | (rw [hf, show i = 61 by omega]; rfl))
  refine g_sub [1, 2, 3, 4, 0] (lv' := [(0, .ref ((B 0) 0)), (1, .int (nI n)), (2, .int f), (3, .int y), (4, .int (nI n))]) rfl ?_
  exact J_15 _ (n) (u_9) (Nat.lt_succ_self _) (by first | assumption | omega) rS_9 rfl

