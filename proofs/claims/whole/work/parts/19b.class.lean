set_option maxRecDepth 100000 in
set_option maxHeartbeats 4000000 in
theorem k_X4_clapsIfBegun (l : Launch) (D : va_G) (q : Nat → ClassId) (tt : Nat → Nat) (B : Nat → Nat → Nat) (o : OC) (h1 : HC) (h2 : HC) (h3 : HC) (t : TC) (g : GC) (S : Nat → Int32) (N : Nat) (j : Nat) (k : Nat) (n : Nat) (hG : Gd S N) (rS : HR S N h1) (hj : j < N) (hk : k < 2 ^ N) (hk2 : k < 256) (hn : n < 2 ^ 31) : MI l D q tt yX4_clapsIfBegun wsX4_clapsIfBegun ({ frames := 4, cells := 0, slots := 0, locals := 101 } : Room) [.ref ((B 0) 0), .int (nI j), .int (nI k), .int (nI n)] (ow q B o ++ (hw q (B 1) h1 ++ (hw q (B 2) h2 ++ (hw q (B 3) h3 ++ (tw q (B 4) t ++ (sw q (B 5) g)))))) (fun (r : Int32) (u : HC) => r = (bI (btS k j = 0 ∧ sC (gosS (scS S N k) N n) j = 1))) (fun u => (ow q B o ++ (hw q (B 1) h1 ++ (hw q (B 2) u ++ (hw q (B 3) h3 ++ (tw q (B 4) t ++ (sw q (B 5) g))))))) 0 0 := by
  refine MI.of RX4 [(0, .ref ((B 0) 0)), (1, .int (nI j)), (2, .int (nI k)), (3, .int (nI n))] (by decide) rfl rfl (Nat.le_of_ble_eq_true rfl) rfl ?_
  intro p e s m args below meth c A C hr hnm
  have w_0 : ∀ w ∈ u_ws RX4 TX4 11, w ∈ wsX4_clapsIfBegun := by decide +kernel
  have w_1 : Cond.fieldLink RX4 16 (TX4 1).1 (TX4 1).2.1 (TX4 1).2.2.1 ∈ wsX4_clapsIfBegun := by decide +kernel
  have w_2 : ∀ w ∈ u_ws RX0 TX0 11, w ∈ wsX4_clapsIfBegun := by decide +kernel
  have w_3 : Cond.fieldLink RX4 152 (TX0 6).1 (TX0 6).2.1 (TX0 6).2.2.1 ∈ wsX4_clapsIfBegun := by decide +kernel
  have h8 := hG.le
  have hS0 := hG.n
  refine g_iloadn C dX4_clapsIfBegun_0 2 rfl rfl ?_
  refine g_iconst C 1 dX4_clapsIfBegun_1 (by decide) ?_
  refine g_iloadn C dX4_clapsIfBegun_2 1 rfl rfl ?_
  refine g_ishl C dX4_clapsIfBegun_3 ?_
  refine g_iand C dX4_clapsIfBegun_4 ?_
  refine g_if_eq C 10 dX4_clapsIfBegun_5 rfl (fun c_5 => ?_) (fun c_5 => ?_)
  · refine g_aloadn C dX4_clapsIfBegun_10 0 rfl rfl ?_
    refine g_callAv C (rd_V C (k_X4_tryFromNow l D q tt B o h1 h2 h3 t g ) gX4_clapsIfBegun_X4_tryFromNow rfl rfl rfl 0 ok_X4_tryFromNow rfl 0 rfl rfl (rest := []) rfl rfl (Nat.le_of_ble_eq_true rfl) dX4_clapsIfBegun_11 ⟨(Nat.le_of_ble_eq_true rfl), (Nat.le_of_ble_eq_true rfl)⟩ ⟨(Nat.le_of_ble_eq_true rfl), (Nat.le_of_ble_eq_true rfl)⟩) (fun u_11 h_11 => ?_)
    have tr_11 := h_11
    refine g_aloadn C dX4_clapsIfBegun_14 0 rfl rfl ?_
    refine g_get C fx4 w_0 0 1 (v := .ref ((B 2) 0)) rfl (by decide) w_1 rfl dX4_clapsIfBegun_15 ?_
    refine g_iloadn C dX4_clapsIfBegun_18 2 rfl rfl ?_
    refine g_put C fx0 w_2 13 6 rfl (by decide) w_3 rfl rfl rfl (Nat.le_of_ble_eq_true rfl) dX4_clapsIfBegun_19 (ow q B o ++ (hw q (B 1) h1 ++ (hw q (B 2) ((hL u_11), (hK u_11), (hP u_11), (hE u_11), (hR u_11), (hN u_11), (nI k), (hM u_11), (hZ u_11), (hJ u_11), (hH u_11)) ++ (hw q (B 3) h3 ++ (tw q (B 4) t ++ (sw q (B 5) g)))))) rfl ?_
    refine g_aloadn C dX4_clapsIfBegun_22 0 rfl rfl ?_
    refine g_get C fx4 w_0 0 1 (v := .ref ((B 2) 0)) rfl (by decide) w_1 rfl dX4_clapsIfBegun_23 ?_
    refine g_iloadn C dX4_clapsIfBegun_26 3 rfl rfl ?_
    refine g_callWv (w1 := (ow q B o ++ (hw q (B 1) h1 ++ (hw q (B 2) ((hL u_11), (hK u_11), (hP u_11), (hE u_11), (hR u_11), (hN u_11), (nI k), (hM u_11), (hZ u_11), (hJ u_11), (hH u_11)) ++ (hw q (B 3) h3 ++ (tw q (B 4) t ++ (sw q (B 5) g))))))) (wr := ([0, 1, 2, 3, 4, 5, 6, 7, 8, 9, 10, 11, 12, 21, 22, 23, 24, 25, 26, 27, 28, 29, 30, 31, 32] : List Nat).filterMap (fun i => (ow q B o ++ (hw q (B 1) h1 ++ (hw q (B 2) ((hL u_11), (hK u_11), (hP u_11), (hE u_11), (hR u_11), (hN u_11), (nI k), (hM u_11), (hZ u_11), (hJ u_11), (hH u_11)) ++ (hw q (B 3) h3 ++ (tw q (B 4) t ++ (sw q (B 5) g))))))[i]?)) (isC := [13, 14, 15, 16, 17, 18, 19, 20]) (isR := [0, 1, 2, 3, 4, 5, 6, 7, 8, 9, 10, 11, 12, 21, 22, 23, 24, 25, 26, 27, 28, 29, 30, 31, 32]) (pm := [0, 1, 2, 3, 4, 5, 6, 7, 8, 9, 10, 11, 12, 25, 26, 27, 28, 29, 30, 31, 32, 13, 14, 15, 16, 17, 18, 19, 20, 21, 22, 23, 24]) (w1' := (fun u_27 => (ow q B o ++ (hw q (B 1) h1 ++ (hw q (B 2) u_27 ++ (hw q (B 3) h3 ++ (tw q (B 4) t ++ (sw q (B 5) g)))))))) C (rd_V C (k_X0_pass l D q tt (B 2) ((hL u_11), (hK u_11), (hP u_11), (hE u_11), (hR u_11), (hN u_11), (nI k), (hM u_11), (hZ u_11), (hJ u_11), (hH u_11)) (scS S N k) N n (Gd_sc hG) (hr_sc (tr_11 S N hG rS) hk) (by first | assumption | omega)) gX4_clapsIfBegun_X0_pass rfl rfl rfl 1 ok_X0_pass rfl 0 rfl rfl (rest := []) rfl rfl (Nat.le_of_ble_eq_true rfl) dX4_clapsIfBegun_27 ⟨(Nat.le_of_ble_eq_true rfl), (Nat.le_of_ble_eq_true rfl)⟩ ⟨(Nat.le_of_ble_eq_true rfl), (Nat.le_of_ble_eq_true rfl)⟩) rfl rfl rfl (fun _ => rfl) rfl (fun u_27 h_27 => ?_)
    have rS_27 := h_27
    refine g_wsc (ow q B o ++ (hw q (B 1) h1 ++ (hw q (B 2) u_27 ++ (hw q (B 3) h3 ++ (tw q (B 4) t ++ (sw q (B 5) g)))))) rfl ?_
    refine g_aloadn C dX4_clapsIfBegun_30 0 rfl rfl ?_
    refine g_get C fx4 w_0 0 1 (v := .ref ((B 2) 0)) rfl (by decide) w_1 rfl dX4_clapsIfBegun_31 ?_
    refine g_iloadn C dX4_clapsIfBegun_34 1 rfl rfl ?_
    refine g_callWi (w1 := (ow q B o ++ (hw q (B 1) h1 ++ (hw q (B 2) u_27 ++ (hw q (B 3) h3 ++ (tw q (B 4) t ++ (sw q (B 5) g))))))) (wr := ([0, 1, 2, 3, 4, 5, 6, 7, 8, 9, 10, 11, 12, 21, 22, 23, 24, 25, 26, 27, 28, 29, 30, 31, 32] : List Nat).filterMap (fun i => (ow q B o ++ (hw q (B 1) h1 ++ (hw q (B 2) u_27 ++ (hw q (B 3) h3 ++ (tw q (B 4) t ++ (sw q (B 5) g))))))[i]?)) (isC := [13, 14, 15, 16, 17, 18, 19, 20]) (isR := [0, 1, 2, 3, 4, 5, 6, 7, 8, 9, 10, 11, 12, 21, 22, 23, 24, 25, 26, 27, 28, 29, 30, 31, 32]) (pm := [0, 1, 2, 3, 4, 5, 6, 7, 8, 9, 10, 11, 12, 25, 26, 27, 28, 29, 30, 31, 32, 13, 14, 15, 16, 17, 18, 19, 20, 21, 22, 23, 24]) (w1' := (fun _ => (ow q B o ++ (hw q (B 1) h1 ++ (hw q (B 2) u_27 ++ (hw q (B 3) h3 ++ (tw q (B 4) t ++ (sw q (B 5) g)))))))) C (rd_V C (k_X0_doesClap l D q tt (B 2) u_27 (gosS (scS S N k) N n) N j ((Gd_sc hG).gos n) rS_27 hj) gX4_clapsIfBegun_X0_doesClap rfl rfl rfl 1 ok_X0_doesClap rfl 0 rfl rfl (rest := []) rfl rfl (Nat.le_of_ble_eq_true rfl) dX4_clapsIfBegun_35 ⟨(Nat.le_of_ble_eq_true rfl), (Nat.le_of_ble_eq_true rfl)⟩ ⟨(Nat.le_of_ble_eq_true rfl), (Nat.le_of_ble_eq_true rfl)⟩) rfl rfl rfl (fun _ => rfl) rfl (fun r_35 _ h_35 => ?_)
    obtain rfl := h_35
    exact g_zret C u_27 hr bI_z dX4_clapsIfBegun_38 (Nat.le_of_ble_eq_true rfl) (Nat.le_of_ble_eq_true rfl) rfl (bI_congr ⟨fun h => ⟨(bt_and j (by omega) k hk2).mp c_5, h⟩, fun h => h.2⟩)
  · refine g_iconst C 0 dX4_clapsIfBegun_8 (by decide) ?_
    exact g_zret C h2 hr rfl dX4_clapsIfBegun_9 (Nat.le_of_ble_eq_true rfl) (Nat.le_of_ble_eq_true rfl) rfl ((bI_n (fun z => c_5 ((bt_and j (by omega) k hk2).mpr z.1))).symm)

set_option maxRecDepth 100000 in
set_option maxHeartbeats 4000000 in
theorem k_X4_allClapIfHired (l : Launch) (D : va_G) (q : Nat → ClassId) (tt : Nat → Nat) (B : Nat → Nat → Nat) (o : OC) (h1 : HC) (h2 : HC) (h3 : HC) (t : TC) (g : GC) (S : Nat → Int32) (N : Nat) (k : Nat) (n : Nat) (hG : Gd S N) (rS : HR S N h1) (hk2 : k < 256) (hn : n < 2 ^ 31) : MI l D q tt yX4_allClapIfHired wsX4_allClapIfHired ({ frames := 4, cells := 0, slots := 0, locals := 101 } : Room) [.ref ((B 0) 0), .int (nI k), .int (nI n)] (ow q B o ++ (hw q (B 1) h1 ++ (hw q (B 2) h2 ++ (hw q (B 3) h3 ++ (tw q (B 4) t ++ (sw q (B 5) g)))))) (fun (r : Int32) (u : HC) => r = (bI (clS (gosS (shS S N k) N n) N = evS N))) (fun u => (ow q B o ++ (hw q (B 1) h1 ++ (hw q (B 2) u ++ (hw q (B 3) h3 ++ (tw q (B 4) t ++ (sw q (B 5) g))))))) 0 0 := by
  refine MI.of RX4 [(0, .ref ((B 0) 0)), (1, .int (nI k)), (2, .int (nI n))] (by decide) rfl rfl (Nat.le_of_ble_eq_true rfl) rfl ?_
  intro p e s m args below meth c A C hr hnm
  have w_0 : ∀ w ∈ u_ws RX4 TX4 11, w ∈ wsX4_allClapIfHired := by decide +kernel
  have w_1 : Cond.fieldLink RX4 16 (TX4 1).1 (TX4 1).2.1 (TX4 1).2.2.1 ∈ wsX4_allClapIfHired := by decide +kernel
  have w_2 : ∀ w ∈ u_ws RX0 TX0 11, w ∈ wsX4_allClapIfHired := by decide +kernel
  have w_3 : Cond.fieldLink RX4 85 (TX0 5).1 (TX0 5).2.1 (TX0 5).2.2.1 ∈ wsX4_allClapIfHired := by decide +kernel
  have w_4 : Cond.fieldLink RX4 152 (TX0 6).1 (TX0 6).2.1 (TX0 6).2.2.1 ∈ wsX4_allClapIfHired := by decide +kernel
  have w_5 : Cond.fieldLink RX4 120 (TX0 1).1 (TX0 1).2.1 (TX0 1).2.2.1 ∈ wsX4_allClapIfHired := by decide +kernel
  have h8 := hG.le
  have hS0 := hG.n
  refine g_aloadn C dX4_allClapIfHired_0 0 rfl rfl ?_
  refine g_callAv C (rd_V C (k_X4_tryFromNow l D q tt B o h1 h2 h3 t g ) gX4_allClapIfHired_X4_tryFromNow rfl rfl rfl 0 ok_X4_tryFromNow rfl 0 rfl rfl (rest := []) rfl rfl (Nat.le_of_ble_eq_true rfl) dX4_allClapIfHired_1 ⟨(Nat.le_of_ble_eq_true rfl), (Nat.le_of_ble_eq_true rfl)⟩ ⟨(Nat.le_of_ble_eq_true rfl), (Nat.le_of_ble_eq_true rfl)⟩) (fun u_1 h_1 => ?_)
  have tr_1 := h_1
  refine g_iconst C 0 dX4_allClapIfHired_4 (by decide) ?_
  refine g_istoren C [(3, .int 0), (0, .ref ((B 0) 0)), (1, .int (nI k)), (2, .int (nI n))] dX4_allClapIfHired_5 rfl (by decide) rfl ?_
  have J_6 : ∀ (fu : Nat) (i : Nat) (kk : Nat → Int32), N - i < fu → (i ≤ N) → (∀ o, o < N → kk o = if o < i ∧ btS k o = 1 then 2 else sK S o) → G p l e ({ frames := 4, cells := 0, slots := 0, locals := 101 } : Room) s m args below meth c 4 D A (MQ below (va_Qi (fun (r : Int32) (u : HC) => r = (bI (clS (gosS (shS S N k) N n) N = evS N))) (Bw D A (fun u => (ow q B o ++ (hw q (B 1) h1 ++ (hw q (B 2) u ++ (hw q (B 3) h3 ++ (tw q (B 4) t ++ (sw q (B 5) g)))))))) A) args s 0 0 A) 6 [(0, .ref ((B 0) 0)), (1, .int (nI k)), (2, .int (nI n)), (3, .int (nI i))] [] (ow q B o ++ (hw q (B 1) h1 ++ (hw q (B 2) ((hL u_1), kk, (hP u_1), (hE u_1), (hR u_1), (hN u_1), (hC u_1), (hM u_1), (hZ u_1), (hJ u_1), (hH u_1)) ++ (hw q (B 3) h3 ++ (tw q (B 4) t ++ (sw q (B 5) g)))))) 0 0 := by
    intro fu
    induction fu with
    | zero =>
      intro i kk hfu
      exact absurd hfu (Nat.not_lt_zero _)
    | succ fu ih =>
      intro i kk hfu hi hkk
      refine g_iloadn C dX4_allClapIfHired_6 3 rfl rfl ?_
      refine g_aloadn C dX4_allClapIfHired_7 0 rfl rfl ?_
      refine g_get C fx4 w_0 0 1 (v := .ref ((B 2) 0)) rfl (by decide) w_1 rfl dX4_allClapIfHired_8 ?_
      refine g_get C fx0 w_2 13 5 (v := .int (hN u_1)) rfl (by decide) w_3 rfl dX4_allClapIfHired_11 ?_
      refine g_topci (nI N) ((tr_1 S N hG rS).n hG) ?_
      refine g_icmpN_ge C 41 (i) (N) dX4_allClapIfHired_14 rfl (by omega) (by omega) (fun c_14 => ?_) (fun c_14 => ?_)
      · refine g_aloadn C dX4_allClapIfHired_41 0 rfl rfl ?_
        refine g_get C fx4 w_0 0 1 (v := .ref ((B 2) 0)) rfl (by decide) w_1 rfl dX4_allClapIfHired_42 ?_
        refine g_iloadn C dX4_allClapIfHired_45 2 rfl rfl ?_
        refine g_callWv (w1 := (ow q B o ++ (hw q (B 1) h1 ++ (hw q (B 2) ((hL u_1), kk, (hP u_1), (hE u_1), (hR u_1), (hN u_1), (hC u_1), (hM u_1), (hZ u_1), (hJ u_1), (hH u_1)) ++ (hw q (B 3) h3 ++ (tw q (B 4) t ++ (sw q (B 5) g))))))) (wr := ([0, 1, 2, 3, 4, 5, 6, 7, 8, 9, 10, 11, 12, 21, 22, 23, 24, 25, 26, 27, 28, 29, 30, 31, 32] : List Nat).filterMap (fun i => (ow q B o ++ (hw q (B 1) h1 ++ (hw q (B 2) ((hL u_1), kk, (hP u_1), (hE u_1), (hR u_1), (hN u_1), (hC u_1), (hM u_1), (hZ u_1), (hJ u_1), (hH u_1)) ++ (hw q (B 3) h3 ++ (tw q (B 4) t ++ (sw q (B 5) g))))))[i]?)) (isC := [13, 14, 15, 16, 17, 18, 19, 20]) (isR := [0, 1, 2, 3, 4, 5, 6, 7, 8, 9, 10, 11, 12, 21, 22, 23, 24, 25, 26, 27, 28, 29, 30, 31, 32]) (pm := [0, 1, 2, 3, 4, 5, 6, 7, 8, 9, 10, 11, 12, 25, 26, 27, 28, 29, 30, 31, 32, 13, 14, 15, 16, 17, 18, 19, 20, 21, 22, 23, 24]) (w1' := (fun u_46 => (ow q B o ++ (hw q (B 1) h1 ++ (hw q (B 2) u_46 ++ (hw q (B 3) h3 ++ (tw q (B 4) t ++ (sw q (B 5) g)))))))) C (rd_V C (k_X0_pass l D q tt (B 2) ((hL u_1), kk, (hP u_1), (hE u_1), (hR u_1), (hN u_1), (hC u_1), (hM u_1), (hZ u_1), (hJ u_1), (hH u_1)) (shS S N k) N n (Gd_sh hG) (hr_sh (tr_1 S N hG rS) (fun o ho => by rw [hkk o ho]; by_cases h1 : btS k o = 1; rw [if_pos ⟨by omega, h1⟩, if_pos h1]; rw [if_neg (fun z => h1 z.2), if_neg h1])) (by first | assumption | omega)) gX4_allClapIfHired_X0_pass rfl rfl rfl 1 ok_X0_pass rfl 0 rfl rfl (rest := []) rfl rfl (Nat.le_of_ble_eq_true rfl) dX4_allClapIfHired_46 ⟨(Nat.le_of_ble_eq_true rfl), (Nat.le_of_ble_eq_true rfl)⟩ ⟨(Nat.le_of_ble_eq_true rfl), (Nat.le_of_ble_eq_true rfl)⟩) rfl rfl rfl (fun _ => rfl) rfl (fun u_46 h_46 => ?_)
        have rS_46 := h_46
        refine g_wsc (ow q B o ++ (hw q (B 1) h1 ++ (hw q (B 2) u_46 ++ (hw q (B 3) h3 ++ (tw q (B 4) t ++ (sw q (B 5) g)))))) rfl ?_
        refine g_aloadn C dX4_allClapIfHired_49 0 rfl rfl ?_
        refine g_get C fx4 w_0 0 1 (v := .ref ((B 2) 0)) rfl (by decide) w_1 rfl dX4_allClapIfHired_50 ?_
        refine g_get C fx0 w_2 13 6 (v := .int (hC u_46)) rfl (by decide) w_4 rfl dX4_allClapIfHired_53 ?_
        refine g_topci (clS (gosS (shS S N k) N n) N) (rS_46.c) ?_
        refine g_aloadn C dX4_allClapIfHired_56 0 rfl rfl ?_
        refine g_get C fx4 w_0 0 1 (v := .ref ((B 2) 0)) rfl (by decide) w_1 rfl dX4_allClapIfHired_57 ?_
        refine g_callWi (w1 := (ow q B o ++ (hw q (B 1) h1 ++ (hw q (B 2) u_46 ++ (hw q (B 3) h3 ++ (tw q (B 4) t ++ (sw q (B 5) g))))))) (wr := ([0, 1, 2, 3, 4, 5, 6, 7, 8, 9, 10, 11, 12, 21, 22, 23, 24, 25, 26, 27, 28, 29, 30, 31, 32] : List Nat).filterMap (fun i => (ow q B o ++ (hw q (B 1) h1 ++ (hw q (B 2) u_46 ++ (hw q (B 3) h3 ++ (tw q (B 4) t ++ (sw q (B 5) g))))))[i]?)) (isC := [13, 14, 15, 16, 17, 18, 19, 20]) (isR := [0, 1, 2, 3, 4, 5, 6, 7, 8, 9, 10, 11, 12, 21, 22, 23, 24, 25, 26, 27, 28, 29, 30, 31, 32]) (pm := [0, 1, 2, 3, 4, 5, 6, 7, 8, 9, 10, 11, 12, 25, 26, 27, 28, 29, 30, 31, 32, 13, 14, 15, 16, 17, 18, 19, 20, 21, 22, 23, 24]) (w1' := (fun _ => (ow q B o ++ (hw q (B 1) h1 ++ (hw q (B 2) u_46 ++ (hw q (B 3) h3 ++ (tw q (B 4) t ++ (sw q (B 5) g)))))))) C (rd_V C (k_X0_everybody l D q tt (B 2) u_46 ) gX4_allClapIfHired_X0_everybody rfl rfl rfl 0 ok_X0_everybody rfl 0 rfl rfl (rest := [.int (clS (gosS (shS S N k) N n) N)]) rfl rfl (Nat.le_of_ble_eq_true rfl) dX4_allClapIfHired_60 ⟨(Nat.le_of_ble_eq_true rfl), (Nat.le_of_ble_eq_true rfl)⟩ ⟨(Nat.le_of_ble_eq_true rfl), (Nat.le_of_ble_eq_true rfl)⟩) rfl rfl rfl (fun _ => rfl) rfl (fun r_60 _ h_60 => ?_)
        obtain rfl := h_60
        refine g_topci (evS N) (by first | (rw [rS_46.n ((Gd_sh hG).gos n)]; done) | (rw [rS_46.n ((Gd_sh hG).gos n)]; rfl)) ?_
        refine g_icmp_ne C 70 dX4_allClapIfHired_63 rfl (fun c_63 => ?_) (fun c_63 => ?_)
        · refine g_iconst C 0 dX4_allClapIfHired_70 (by decide) ?_
          exact g_zret C u_46 hr rfl dX4_allClapIfHired_71 (Nat.le_of_ble_eq_true rfl) (Nat.le_of_ble_eq_true rfl) rfl ((bI_n c_63).symm)
        · refine g_iconst C 1 dX4_allClapIfHired_66 (by decide) ?_
          refine g_goto C 71 dX4_allClapIfHired_67 rfl ?_
          exact g_zret C u_46 hr rfl dX4_allClapIfHired_71 (Nat.le_of_ble_eq_true rfl) (Nat.le_of_ble_eq_true rfl) rfl ((bI_t c_63).symm)
      · refine g_iloadn C dX4_allClapIfHired_17 1 rfl rfl ?_
        refine g_iconst C 1 dX4_allClapIfHired_18 (by decide) ?_
        refine g_iloadn C dX4_allClapIfHired_19 3 rfl rfl ?_
        refine g_ishl C dX4_allClapIfHired_20 ?_
        refine g_iand C dX4_allClapIfHired_21 ?_
        refine g_if_eq C 35 dX4_allClapIfHired_22 rfl (fun c_22 => ?_) (fun c_22 => ?_)
        · refine g_iinc C (nI (i + 1)) [(3, .int (nI (i + 1))), (0, .ref ((B 0) 0)), (1, .int (nI k)), (2, .int (nI n))] dX4_allClapIfHired_35 3 rfl (nI_add i 1) (by decide) rfl ?_
          refine g_goto C 6 dX4_allClapIfHired_38 rfl ?_
          refine g_sub [1, 2, 3, 0] (lv' := [(0, .ref ((B 0) 0)), (1, .int (nI k)), (2, .int (nI n)), (3, .int (nI (i + 1)))]) rfl ?_
          exact ih ((i + 1)) (kk) (by omega) (by first | assumption | omega) (fun o ho => by
              by_cases q : o = i
              · subst q
                first
                  | (rw [pk_us, if_pos ⟨by omega, (by have := bt_le k o; have z : ¬ btS k o = 0 := (fun z => c_22 ((bt_and o (by omega) k hk2).mpr z)); omega)⟩]; done)
                  | (rw [hkk o ho, if_neg (by omega), if_neg (fun z => by have := (bt_and o (by omega) k hk2).mp c_22; omega)])
              · first
                  | rw [pk_un q, hkk o ho]
                  | rw [hkk o ho]
                by_cases h1 : o < i ∧ btS k o = 1
                · rw [if_pos h1, if_pos ⟨by omega, h1.2⟩]
                · rw [if_neg h1, if_neg (fun z => h1 ⟨by omega, z.2⟩)])
        · refine g_aloadn C dX4_allClapIfHired_25 0 rfl rfl ?_
          refine g_get C fx4 w_0 0 1 (v := .ref ((B 2) 0)) rfl (by decide) w_1 rfl dX4_allClapIfHired_26 ?_
          refine g_get C fx0 w_2 13 1 (v := .ref ((B 2) 2)) rfl (by decide) w_5 rfl dX4_allClapIfHired_29 ?_
          refine g_iloadn C dX4_allClapIfHired_32 3 rfl rfl ?_
          refine g_iconst C 2 dX4_allClapIfHired_33 (by decide) ?_
          refine g_iast C 15 (i) (f := kk) rfl rfl (by omega) (by decide) dX4_allClapIfHired_34 (ow q B o ++ (hw q (B 1) h1 ++ (hw q (B 2) ((hL u_1), (upd kk i 2), (hP u_1), (hE u_1), (hR u_1), (hN u_1), (hC u_1), (hM u_1), (hZ u_1), (hJ u_1), (hH u_1)) ++ (hw q (B 3) h3 ++ (tw q (B 4) t ++ (sw q (B 5) g)))))) rfl ?_
          refine g_iinc C (nI (i + 1)) [(3, .int (nI (i + 1))), (0, .ref ((B 0) 0)), (1, .int (nI k)), (2, .int (nI n))] dX4_allClapIfHired_35 3 rfl (nI_add i 1) (by decide) rfl ?_
          refine g_goto C 6 dX4_allClapIfHired_38 rfl ?_
          refine g_sub [1, 2, 3, 0] (lv' := [(0, .ref ((B 0) 0)), (1, .int (nI k)), (2, .int (nI n)), (3, .int (nI (i + 1)))]) rfl ?_
          exact ih ((i + 1)) ((upd kk i 2)) (by omega) (by first | assumption | omega) (fun o ho => by
              by_cases q : o = i
              · subst q
                first
                  | (rw [pk_us, if_pos ⟨by omega, (by have := bt_le k o; have z : ¬ btS k o = 0 := (fun z => c_22 ((bt_and o (by omega) k hk2).mpr z)); omega)⟩]; done)
                  | (rw [hkk o ho, if_neg (by omega), if_neg (fun z => by have := (bt_and o (by omega) k hk2).mp c_22; omega)])
              · first
                  | rw [pk_un q, hkk o ho]
                  | rw [hkk o ho]
                by_cases h1 : o < i ∧ btS k o = 1
                · rw [if_pos h1, if_pos ⟨by omega, h1.2⟩]
                · rw [if_neg h1, if_neg (fun z => h1 ⟨by omega, z.2⟩)])
  refine g_sub [1, 2, 3, 0] (lv' := [(0, .ref ((B 0) 0)), (1, .int (nI k)), (2, .int (nI n)), (3, .int 0)]) rfl ?_
  exact J_6 _ (0) ((hK u_1)) (Nat.lt_succ_self _) (by first | assumption | omega) (fun o ho => by rw [if_neg (by omega)]; exact (tr_1 S N hG rS).K ho)

set_option maxRecDepth 100000 in
set_option maxHeartbeats 4000000 in
theorem k_X4_fewBegun (l : Launch) (D : va_G) (q : Nat → ClassId) (tt : Nat → Nat) (B : Nat → Nat → Nat) (o : OC) (h1 : HC) (h2 : HC) (h3 : HC) (t : TC) (g : GC) (S : Nat → Int32) (N : Nat) (j : Nat) (n : Nat) (hG : Gd S N) (rS : HR S N h1) (hj : j < N) (hn : n < 2 ^ 31) : MI l D q tt yX4_fewest wsX4_fewest ({ frames := 5, cells := 0, slots := 0, locals := 124 } : Room) [.ref ((B 0) 0), .int (nI j), .int (nI n)] (ow q B o ++ (hw q (B 1) h1 ++ (hw q (B 2) h2 ++ (hw q (B 3) h3 ++ (tw q (B 4) t ++ (sw q (B 5) g)))))) (fun (r : Int32) (u : HC) => lsS (bgG S N j n) (2 ^ N) r) (fun u => (ow q B o ++ (hw q (B 1) h1 ++ (hw q (B 2) u ++ (hw q (B 3) h3 ++ (tw q (B 4) t ++ (sw q (B 5) g))))))) 0 0 := by
  refine MI.of RX4 [(0, .ref ((B 0) 0)), (1, .int (nI j)), (2, .int (nI n))] (by decide) rfl rfl (Nat.le_of_ble_eq_true rfl) rfl ?_
  intro p e s m args below meth c A C hr hnm
  have w_0 : ∀ w ∈ u_ws RX4 TX4 11, w ∈ wsX4_fewest := by decide +kernel
  have w_1 : Cond.fieldLink RX4 10 (TX4 0).1 (TX4 0).2.1 (TX4 0).2.2.1 ∈ wsX4_fewest := by decide +kernel
  have w_2 : ∀ w ∈ u_ws RX0 TX0 11, w ∈ wsX4_fewest := by decide +kernel
  have w_3 : Cond.fieldLink RX4 85 (TX0 5).1 (TX0 5).2.1 (TX0 5).2.2.1 ∈ wsX4_fewest := by decide +kernel
  have h8 := hG.le
  have hS0 := hG.n
  obtain ⟨M, hM, hM1, hM8⟩ : ∃ M, M = 2 ^ N ∧ 1 ≤ M ∧ M ≤ 256 := ⟨2 ^ N, rfl, Nat.two_pow_pos N, Nat.pow_le_pow_right (n := 2) (by omega) h8⟩
  have hEv : evS N = nI (M - 1) := by rw [hM]; exact ev_pow N (by omega)
  refine g_aloadn C dX4_fewest_0 0 rfl rfl ?_
  refine g_get C fx4 w_0 0 0 (v := .ref ((B 1) 0)) rfl (by decide) w_1 rfl dX4_fewest_1 ?_
  refine g_callWi (w1 := (ow q B o ++ (hw q (B 1) h1 ++ (hw q (B 2) h2 ++ (hw q (B 3) h3 ++ (tw q (B 4) t ++ (sw q (B 5) g))))))) (wr := ([0, 1, 2, 3, 4, 13, 14, 15, 16, 17, 18, 19, 20, 21, 22, 23, 24, 25, 26, 27, 28, 29, 30, 31, 32] : List Nat).filterMap (fun i => (ow q B o ++ (hw q (B 1) h1 ++ (hw q (B 2) h2 ++ (hw q (B 3) h3 ++ (tw q (B 4) t ++ (sw q (B 5) g))))))[i]?)) (isC := [5, 6, 7, 8, 9, 10, 11, 12]) (isR := [0, 1, 2, 3, 4, 13, 14, 15, 16, 17, 18, 19, 20, 21, 22, 23, 24, 25, 26, 27, 28, 29, 30, 31, 32]) (pm := [0, 1, 2, 3, 4, 25, 26, 27, 28, 29, 30, 31, 32, 5, 6, 7, 8, 9, 10, 11, 12, 13, 14, 15, 16, 17, 18, 19, 20, 21, 22, 23, 24]) (w1' := (fun _ => (ow q B o ++ (hw q (B 1) h1 ++ (hw q (B 2) h2 ++ (hw q (B 3) h3 ++ (tw q (B 4) t ++ (sw q (B 5) g)))))))) C (rd_V C (k_X0_everybody l D q tt (B 1) h1 ) gX4_fewest_X0_everybody rfl rfl rfl 0 ok_X0_everybody rfl 0 rfl rfl (rest := []) rfl rfl (Nat.le_of_ble_eq_true rfl) dX4_fewest_4 ⟨(Nat.le_of_ble_eq_true rfl), (Nat.le_of_ble_eq_true rfl)⟩ ⟨(Nat.le_of_ble_eq_true rfl), (Nat.le_of_ble_eq_true rfl)⟩) rfl rfl rfl (fun _ => rfl) rfl (fun r_4 _ h_4 => ?_)
  obtain rfl := h_4
  refine g_topci (nI (M - 1)) (by rw [← hEv]; first | (rw [rS.n hG]; done) | (rw [rS.n hG]; rfl)) ?_
  refine g_istoren C [(3, .int (nI (M - 1))), (0, .ref ((B 0) 0)), (1, .int (nI j)), (2, .int (nI n))] dX4_fewest_7 rfl (by decide) rfl ?_
  refine g_iconst C 0 dX4_fewest_8 (by decide) ?_
  refine g_istore C [(4, .int 0), (3, .int (nI (M - 1))), (0, .ref ((B 0) 0)), (1, .int (nI j)), (2, .int (nI n))] dX4_fewest_9 (by decide) rfl ?_
  have J_11 : ∀ (fu : Nat) (i : Nat) (g2 : HC), N + 1 - i < fu → (i ≤ N + 1) → (∀ j_, j_ < M → (bgG S N j n) j_ → i ≤ pop j_) → G p l e ({ frames := 5, cells := 0, slots := 0, locals := 124 } : Room) s m args below meth c 6 D A (MQ below (va_Qi (fun (r : Int32) (u : HC) => lsS (bgG S N j n) (2 ^ N) r) (Bw D A (fun u => (ow q B o ++ (hw q (B 1) h1 ++ (hw q (B 2) u ++ (hw q (B 3) h3 ++ (tw q (B 4) t ++ (sw q (B 5) g)))))))) A) args s 0 0 A) 11 [(0, .ref ((B 0) 0)), (1, .int (nI j)), (2, .int (nI n)), (3, .int (nI (M - 1))), (4, .int (nI i))] [] (ow q B o ++ (hw q (B 1) h1 ++ (hw q (B 2) g2 ++ (hw q (B 3) h3 ++ (tw q (B 4) t ++ (sw q (B 5) g)))))) 0 0 := by
    intro fu
    induction fu with
    | zero =>
      intro i g2 hfu
      exact absurd hfu (Nat.not_lt_zero _)
    | succ fu ih_11 =>
      intro i g2 hfu hi hO
      refine g_iload C dX4_fewest_11 4 rfl ?_
      refine g_aloadn C dX4_fewest_13 0 rfl rfl ?_
      refine g_get C fx4 w_0 0 0 (v := .ref ((B 1) 0)) rfl (by decide) w_1 rfl dX4_fewest_14 ?_
      refine g_get C fx0 w_2 5 5 (v := .int (hN h1)) rfl (by decide) w_3 rfl dX4_fewest_17 ?_
      refine g_topci (nI N) (rS.n hG) ?_
      refine g_icmpN_gt C 86 (i) (N) dX4_fewest_20 rfl (by omega) (by omega) (fun c_20 => ?_) (fun c_20 => ?_)
      · refine g_bipush C (-3) dX4_fewest_86 (by decide) ?_
        exact g_iret C g2 hr dX4_fewest_88 (Nat.le_of_ble_eq_true rfl) (Nat.le_of_ble_eq_true rfl) rfl (by rw [← hM]; exact by_none hO (fun k hk => pop_n N (by omega) k (by rw [← hM]; exact hk)) (by omega))
      · refine g_iconst C 0 dX4_fewest_23 (by decide) ?_
        refine g_istore C [(5, .int 0), (0, .ref ((B 0) 0)), (1, .int (nI j)), (2, .int (nI n)), (3, .int (nI (M - 1))), (4, .int (nI i))] dX4_fewest_24 (by decide) rfl ?_
        have J_26 : ∀ (fu : Nat) (k : Nat) (g2 : HC), M - k < fu → (k ≤ M) → (∀ j_, j_ < k → (bgG S N j n) j_ → ¬ pop j_ = i) → G p l e ({ frames := 5, cells := 0, slots := 0, locals := 124 } : Room) s m args below meth c 6 D A (MQ below (va_Qi (fun (r : Int32) (u : HC) => lsS (bgG S N j n) (2 ^ N) r) (Bw D A (fun u => (ow q B o ++ (hw q (B 1) h1 ++ (hw q (B 2) u ++ (hw q (B 3) h3 ++ (tw q (B 4) t ++ (sw q (B 5) g)))))))) A) args s 0 0 A) 26 [(0, .ref ((B 0) 0)), (1, .int (nI j)), (2, .int (nI n)), (3, .int (nI (M - 1))), (4, .int (nI i)), (5, .int (nI k))] [] (ow q B o ++ (hw q (B 1) h1 ++ (hw q (B 2) g2 ++ (hw q (B 3) h3 ++ (tw q (B 4) t ++ (sw q (B 5) g)))))) 0 0 := by
          intro fu
          induction fu with
          | zero =>
            intro k g2 hfu
            exact absurd hfu (Nat.not_lt_zero _)
          | succ fu ih_26 =>
            intro k g2 hfu hkM hI
            refine g_iload C dX4_fewest_26 5 rfl ?_
            refine g_iloadn C dX4_fewest_28 3 rfl rfl ?_
            refine g_icmpN_gt C 80 (k) ((M - 1)) dX4_fewest_29 rfl (by omega) (by omega) (fun c_29 => ?_) (fun c_29 => ?_)
            · refine g_iinc C (nI (i + 1)) [(4, .int (nI (i + 1))), (0, .ref ((B 0) 0)), (1, .int (nI j)), (2, .int (nI n)), (3, .int (nI (M - 1))), (5, .int (nI k))] dX4_fewest_80 4 rfl (nI_add i 1) (by decide) rfl ?_
              refine g_goto C 11 dX4_fewest_83 rfl ?_
              refine g_sub [1, 2, 3, 4, 0] (lv' := [(0, .ref ((B 0) 0)), (1, .int (nI j)), (2, .int (nI n)), (3, .int (nI (M - 1))), (4, .int (nI (i + 1)))]) rfl ?_
              exact ih_11 ((i + 1)) (g2) (by omega) (by first | assumption | omega) (by_next hO hI (by omega))
            · have hk256 : k < 256 := by omega
              have hpk := pop_le k hk256
              refine g_iload C dX4_fewest_32 5 rfl ?_
              refine g_call0i C (rd_S C (k_J6_bitCount_0f7a4 l D q tt k hk256) gX4_fewest_J6_bitCount_0f7a4 rfl rfl rfl 1 ok_J6_bitCount_0f7a4 (rest := []) rfl rfl (Nat.le_of_ble_eq_true rfl) dX4_fewest_34 ⟨(Nat.le_of_ble_eq_true rfl), (Nat.le_of_ble_eq_true rfl)⟩ ⟨(Nat.le_of_ble_eq_true rfl), (Nat.le_of_ble_eq_true rfl)⟩) (fun _ => rfl) (fun r_34 _ h_34 => ?_)
              obtain rfl := h_34
              refine g_iload C dX4_fewest_37 4 rfl ?_
              refine g_icmpN_ne C 74 ((pop k)) (i) dX4_fewest_39 rfl (by omega) (by omega) (fun c_39 => ?_) (fun c_39 => ?_)
              · refine g_iinc C (nI (k + 1)) [(5, .int (nI (k + 1))), (0, .ref ((B 0) 0)), (1, .int (nI j)), (2, .int (nI n)), (3, .int (nI (M - 1))), (4, .int (nI i))] dX4_fewest_74 5 rfl (nI_add k 1) (by decide) rfl ?_
                refine g_goto C 26 dX4_fewest_77 rfl ?_
                refine g_sub [1, 2, 3, 4, 5, 0] (lv' := [(0, .ref ((B 0) 0)), (1, .int (nI j)), (2, .int (nI n)), (3, .int (nI (M - 1))), (4, .int (nI i)), (5, .int (nI (k + 1)))]) rfl ?_
                exact ih_26 ((k + 1)) (g2) (by omega) (by first | assumption | omega) (by_skip hI (fun z => by first | exact c_39 z.1 | exact c_68 z.2))
              · refine g_iloadn C dX4_fewest_42 1 rfl rfl ?_
                refine g_iconst C (-1) dX4_fewest_43 (by decide) ?_
                refine g_icmp_ne C 60 dX4_fewest_44 rfl (fun c_44 => ?_) (fun c_44 => ?_)
                · refine g_aloadn C dX4_fewest_60 0 rfl rfl ?_
                  refine g_iloadn C dX4_fewest_61 1 rfl rfl ?_
                  refine g_iload C dX4_fewest_62 5 rfl ?_
                  refine g_iloadn C dX4_fewest_64 2 rfl rfl ?_
                  refine g_callAi C (rd_V C (k_X4_clapsIfBegun l D q tt B o h1 g2 h3 t g S N j k n (by first | assumption | omega) (by first | assumption | omega) (by first | assumption | omega) (by rw [← hM]; omega) hk256 (by first | assumption | omega)) gX4_fewest_X4_clapsIfBegun rfl rfl rfl 3 ok_X4_clapsIfBegun rfl 0 rfl rfl (rest := []) rfl rfl (Nat.le_of_ble_eq_true rfl) dX4_fewest_65 ⟨(Nat.le_of_ble_eq_true rfl), (Nat.le_of_ble_eq_true rfl)⟩ ⟨(Nat.le_of_ble_eq_true rfl), (Nat.le_of_ble_eq_true rfl)⟩) (fun r_65 u_65 h_65 => ?_)
                  obtain rfl := h_65
                  refine g_ifeqE C 74 dX4_fewest_68 rfl rfl (fun c_68 => ?_) (fun c_68 => ?_)
                  · refine g_iinc C (nI (k + 1)) [(5, .int (nI (k + 1))), (0, .ref ((B 0) 0)), (1, .int (nI j)), (2, .int (nI n)), (3, .int (nI (M - 1))), (4, .int (nI i))] dX4_fewest_74 5 rfl (nI_add k 1) (by decide) rfl ?_
                    refine g_goto C 26 dX4_fewest_77 rfl ?_
                    refine g_sub [1, 2, 3, 4, 5, 0] (lv' := [(0, .ref ((B 0) 0)), (1, .int (nI j)), (2, .int (nI n)), (3, .int (nI (M - 1))), (4, .int (nI i)), (5, .int (nI (k + 1)))]) rfl ?_
                    exact ih_26 ((k + 1)) (u_65) (by omega) (by first | assumption | omega) (by_skip hI (fun z => by first | exact c_39 z.1 | exact c_68 z.2))
                  · refine g_iload C dX4_fewest_71 5 rfl ?_
                    exact g_iret C u_65 hr dX4_fewest_73 (Nat.le_of_ble_eq_true rfl) (Nat.le_of_ble_eq_true rfl) rfl (by rw [← hM]; exact by_hit hO hI (by omega) c_39 c_68)
                · exfalso
                  have h9_ : ∀ o, o < 8 → ¬ nI o = -1 := by decide +kernel
                  exact h9_ j (by omega) c_44
        refine g_sub [1, 2, 3, 4, 5, 0] (lv' := [(0, .ref ((B 0) 0)), (1, .int (nI j)), (2, .int (nI n)), (3, .int (nI (M - 1))), (4, .int (nI i)), (5, .int 0)]) rfl ?_
        exact J_26 _ (0) (g2) (Nat.lt_succ_self _) (by first | assumption | omega) (fun j_ h => absurd h (Nat.not_lt_zero j_))
  refine g_sub [2, 3, 4, 1, 0] (lv' := [(0, .ref ((B 0) 0)), (1, .int (nI j)), (2, .int (nI n)), (3, .int (nI (M - 1))), (4, .int 0)]) rfl ?_
  exact J_11 _ (0) (h2) (Nat.lt_succ_self _) (by first | assumption | omega) (fun _ _ _ => Nat.zero_le _)

set_option maxRecDepth 100000 in
set_option maxHeartbeats 4000000 in
theorem k_X4_fewHired (l : Launch) (D : va_G) (q : Nat → ClassId) (tt : Nat → Nat) (B : Nat → Nat → Nat) (o : OC) (h1 : HC) (h2 : HC) (h3 : HC) (t : TC) (g : GC) (S : Nat → Int32) (N : Nat) (n : Nat) (hG : Gd S N) (rS : HR S N h1) (hn : n < 2 ^ 31) : MI l D q tt yX4_fewest wsX4_fewest ({ frames := 5, cells := 0, slots := 0, locals := 124 } : Room) [.ref ((B 0) 0), .int (-1), .int (nI n)] (ow q B o ++ (hw q (B 1) h1 ++ (hw q (B 2) h2 ++ (hw q (B 3) h3 ++ (tw q (B 4) t ++ (sw q (B 5) g)))))) (fun (r : Int32) (u : HC) => lsS (hrG S N n) (2 ^ N) r) (fun u => (ow q B o ++ (hw q (B 1) h1 ++ (hw q (B 2) u ++ (hw q (B 3) h3 ++ (tw q (B 4) t ++ (sw q (B 5) g))))))) 0 0 := by
  refine MI.of RX4 [(0, .ref ((B 0) 0)), (1, .int (-1)), (2, .int (nI n))] (by decide) rfl rfl (Nat.le_of_ble_eq_true rfl) rfl ?_
  intro p e s m args below meth c A C hr hnm
  have w_0 : ∀ w ∈ u_ws RX4 TX4 11, w ∈ wsX4_fewest := by decide +kernel
  have w_1 : Cond.fieldLink RX4 10 (TX4 0).1 (TX4 0).2.1 (TX4 0).2.2.1 ∈ wsX4_fewest := by decide +kernel
  have w_2 : ∀ w ∈ u_ws RX0 TX0 11, w ∈ wsX4_fewest := by decide +kernel
  have w_3 : Cond.fieldLink RX4 85 (TX0 5).1 (TX0 5).2.1 (TX0 5).2.2.1 ∈ wsX4_fewest := by decide +kernel
  have h8 := hG.le
  have hS0 := hG.n
  obtain ⟨M, hM, hM1, hM8⟩ : ∃ M, M = 2 ^ N ∧ 1 ≤ M ∧ M ≤ 256 := ⟨2 ^ N, rfl, Nat.two_pow_pos N, Nat.pow_le_pow_right (n := 2) (by omega) h8⟩
  have hEv : evS N = nI (M - 1) := by rw [hM]; exact ev_pow N (by omega)
  refine g_aloadn C dX4_fewest_0 0 rfl rfl ?_
  refine g_get C fx4 w_0 0 0 (v := .ref ((B 1) 0)) rfl (by decide) w_1 rfl dX4_fewest_1 ?_
  refine g_callWi (w1 := (ow q B o ++ (hw q (B 1) h1 ++ (hw q (B 2) h2 ++ (hw q (B 3) h3 ++ (tw q (B 4) t ++ (sw q (B 5) g))))))) (wr := ([0, 1, 2, 3, 4, 13, 14, 15, 16, 17, 18, 19, 20, 21, 22, 23, 24, 25, 26, 27, 28, 29, 30, 31, 32] : List Nat).filterMap (fun i => (ow q B o ++ (hw q (B 1) h1 ++ (hw q (B 2) h2 ++ (hw q (B 3) h3 ++ (tw q (B 4) t ++ (sw q (B 5) g))))))[i]?)) (isC := [5, 6, 7, 8, 9, 10, 11, 12]) (isR := [0, 1, 2, 3, 4, 13, 14, 15, 16, 17, 18, 19, 20, 21, 22, 23, 24, 25, 26, 27, 28, 29, 30, 31, 32]) (pm := [0, 1, 2, 3, 4, 25, 26, 27, 28, 29, 30, 31, 32, 5, 6, 7, 8, 9, 10, 11, 12, 13, 14, 15, 16, 17, 18, 19, 20, 21, 22, 23, 24]) (w1' := (fun _ => (ow q B o ++ (hw q (B 1) h1 ++ (hw q (B 2) h2 ++ (hw q (B 3) h3 ++ (tw q (B 4) t ++ (sw q (B 5) g)))))))) C (rd_V C (k_X0_everybody l D q tt (B 1) h1 ) gX4_fewest_X0_everybody rfl rfl rfl 0 ok_X0_everybody rfl 0 rfl rfl (rest := []) rfl rfl (Nat.le_of_ble_eq_true rfl) dX4_fewest_4 ⟨(Nat.le_of_ble_eq_true rfl), (Nat.le_of_ble_eq_true rfl)⟩ ⟨(Nat.le_of_ble_eq_true rfl), (Nat.le_of_ble_eq_true rfl)⟩) rfl rfl rfl (fun _ => rfl) rfl (fun r_4 _ h_4 => ?_)
  obtain rfl := h_4
  refine g_topci (nI (M - 1)) (by rw [← hEv]; first | (rw [rS.n hG]; done) | (rw [rS.n hG]; rfl)) ?_
  refine g_istoren C [(3, .int (nI (M - 1))), (0, .ref ((B 0) 0)), (1, .int (-1)), (2, .int (nI n))] dX4_fewest_7 rfl (by decide) rfl ?_
  refine g_iconst C 0 dX4_fewest_8 (by decide) ?_
  refine g_istore C [(4, .int 0), (3, .int (nI (M - 1))), (0, .ref ((B 0) 0)), (1, .int (-1)), (2, .int (nI n))] dX4_fewest_9 (by decide) rfl ?_
  have J_11 : ∀ (fu : Nat) (i : Nat) (g2 : HC), N + 1 - i < fu → (i ≤ N + 1) → (∀ j_, j_ < M → (hrG S N n) j_ → i ≤ pop j_) → G p l e ({ frames := 5, cells := 0, slots := 0, locals := 124 } : Room) s m args below meth c 6 D A (MQ below (va_Qi (fun (r : Int32) (u : HC) => lsS (hrG S N n) (2 ^ N) r) (Bw D A (fun u => (ow q B o ++ (hw q (B 1) h1 ++ (hw q (B 2) u ++ (hw q (B 3) h3 ++ (tw q (B 4) t ++ (sw q (B 5) g)))))))) A) args s 0 0 A) 11 [(0, .ref ((B 0) 0)), (1, .int (-1)), (2, .int (nI n)), (3, .int (nI (M - 1))), (4, .int (nI i))] [] (ow q B o ++ (hw q (B 1) h1 ++ (hw q (B 2) g2 ++ (hw q (B 3) h3 ++ (tw q (B 4) t ++ (sw q (B 5) g)))))) 0 0 := by
    intro fu
    induction fu with
    | zero =>
      intro i g2 hfu
      exact absurd hfu (Nat.not_lt_zero _)
    | succ fu ih_11 =>
      intro i g2 hfu hi hO
      refine g_iload C dX4_fewest_11 4 rfl ?_
      refine g_aloadn C dX4_fewest_13 0 rfl rfl ?_
      refine g_get C fx4 w_0 0 0 (v := .ref ((B 1) 0)) rfl (by decide) w_1 rfl dX4_fewest_14 ?_
      refine g_get C fx0 w_2 5 5 (v := .int (hN h1)) rfl (by decide) w_3 rfl dX4_fewest_17 ?_
      refine g_topci (nI N) (rS.n hG) ?_
      refine g_icmpN_gt C 86 (i) (N) dX4_fewest_20 rfl (by omega) (by omega) (fun c_20 => ?_) (fun c_20 => ?_)
      · refine g_bipush C (-3) dX4_fewest_86 (by decide) ?_
        exact g_iret C g2 hr dX4_fewest_88 (Nat.le_of_ble_eq_true rfl) (Nat.le_of_ble_eq_true rfl) rfl (by rw [← hM]; exact by_none hO (fun k hk => pop_n N (by omega) k (by rw [← hM]; exact hk)) (by omega))
      · refine g_iconst C 0 dX4_fewest_23 (by decide) ?_
        refine g_istore C [(5, .int 0), (0, .ref ((B 0) 0)), (1, .int (-1)), (2, .int (nI n)), (3, .int (nI (M - 1))), (4, .int (nI i))] dX4_fewest_24 (by decide) rfl ?_
        have J_26 : ∀ (fu : Nat) (k : Nat) (g2 : HC), M - k < fu → (k ≤ M) → (∀ j_, j_ < k → (hrG S N n) j_ → ¬ pop j_ = i) → G p l e ({ frames := 5, cells := 0, slots := 0, locals := 124 } : Room) s m args below meth c 6 D A (MQ below (va_Qi (fun (r : Int32) (u : HC) => lsS (hrG S N n) (2 ^ N) r) (Bw D A (fun u => (ow q B o ++ (hw q (B 1) h1 ++ (hw q (B 2) u ++ (hw q (B 3) h3 ++ (tw q (B 4) t ++ (sw q (B 5) g)))))))) A) args s 0 0 A) 26 [(0, .ref ((B 0) 0)), (1, .int (-1)), (2, .int (nI n)), (3, .int (nI (M - 1))), (4, .int (nI i)), (5, .int (nI k))] [] (ow q B o ++ (hw q (B 1) h1 ++ (hw q (B 2) g2 ++ (hw q (B 3) h3 ++ (tw q (B 4) t ++ (sw q (B 5) g)))))) 0 0 := by
          intro fu
          induction fu with
          | zero =>
            intro k g2 hfu
            exact absurd hfu (Nat.not_lt_zero _)
          | succ fu ih_26 =>
            intro k g2 hfu hkM hI
            refine g_iload C dX4_fewest_26 5 rfl ?_
            refine g_iloadn C dX4_fewest_28 3 rfl rfl ?_
            refine g_icmpN_gt C 80 (k) ((M - 1)) dX4_fewest_29 rfl (by omega) (by omega) (fun c_29 => ?_) (fun c_29 => ?_)
            · refine g_iinc C (nI (i + 1)) [(4, .int (nI (i + 1))), (0, .ref ((B 0) 0)), (1, .int (-1)), (2, .int (nI n)), (3, .int (nI (M - 1))), (5, .int (nI k))] dX4_fewest_80 4 rfl (nI_add i 1) (by decide) rfl ?_
              refine g_goto C 11 dX4_fewest_83 rfl ?_
              refine g_sub [1, 2, 3, 4, 0] (lv' := [(0, .ref ((B 0) 0)), (1, .int (-1)), (2, .int (nI n)), (3, .int (nI (M - 1))), (4, .int (nI (i + 1)))]) rfl ?_
              exact ih_11 ((i + 1)) (g2) (by omega) (by first | assumption | omega) (by_next hO hI (by omega))
            · have hk256 : k < 256 := by omega
              have hpk := pop_le k hk256
              refine g_iload C dX4_fewest_32 5 rfl ?_
              refine g_call0i C (rd_S C (k_J6_bitCount_0f7a4 l D q tt k hk256) gX4_fewest_J6_bitCount_0f7a4 rfl rfl rfl 1 ok_J6_bitCount_0f7a4 (rest := []) rfl rfl (Nat.le_of_ble_eq_true rfl) dX4_fewest_34 ⟨(Nat.le_of_ble_eq_true rfl), (Nat.le_of_ble_eq_true rfl)⟩ ⟨(Nat.le_of_ble_eq_true rfl), (Nat.le_of_ble_eq_true rfl)⟩) (fun _ => rfl) (fun r_34 _ h_34 => ?_)
              obtain rfl := h_34
              refine g_iload C dX4_fewest_37 4 rfl ?_
              refine g_icmpN_ne C 74 ((pop k)) (i) dX4_fewest_39 rfl (by omega) (by omega) (fun c_39 => ?_) (fun c_39 => ?_)
              · refine g_iinc C (nI (k + 1)) [(5, .int (nI (k + 1))), (0, .ref ((B 0) 0)), (1, .int (-1)), (2, .int (nI n)), (3, .int (nI (M - 1))), (4, .int (nI i))] dX4_fewest_74 5 rfl (nI_add k 1) (by decide) rfl ?_
                refine g_goto C 26 dX4_fewest_77 rfl ?_
                refine g_sub [1, 2, 3, 4, 5, 0] (lv' := [(0, .ref ((B 0) 0)), (1, .int (-1)), (2, .int (nI n)), (3, .int (nI (M - 1))), (4, .int (nI i)), (5, .int (nI (k + 1)))]) rfl ?_
                exact ih_26 ((k + 1)) (g2) (by omega) (by first | assumption | omega) (by_skip hI (fun z => by first | exact c_39 z.1 | exact c_54 z.2))
              · refine g_iloadn C dX4_fewest_42 1 rfl rfl ?_
                refine g_iconst C (-1) dX4_fewest_43 (by decide) ?_
                refine g_icmp_ne C 60 dX4_fewest_44 rfl (fun c_44 => ?_) (fun c_44 => ?_)
                · exfalso
                  exact c_44 rfl
                · refine g_aloadn C dX4_fewest_47 0 rfl rfl ?_
                  refine g_iload C dX4_fewest_48 5 rfl ?_
                  refine g_iloadn C dX4_fewest_50 2 rfl rfl ?_
                  refine g_callAi C (rd_V C (k_X4_allClapIfHired l D q tt B o h1 g2 h3 t g S N k n (by first | assumption | omega) (by first | assumption | omega) hk256 (by first | assumption | omega)) gX4_fewest_X4_allClapIfHired rfl rfl rfl 2 ok_X4_allClapIfHired rfl 0 rfl rfl (rest := []) rfl rfl (Nat.le_of_ble_eq_true rfl) dX4_fewest_51 ⟨(Nat.le_of_ble_eq_true rfl), (Nat.le_of_ble_eq_true rfl)⟩ ⟨(Nat.le_of_ble_eq_true rfl), (Nat.le_of_ble_eq_true rfl)⟩) (fun r_51 u_51 h_51 => ?_)
                  obtain rfl := h_51
                  refine g_ifeqE C 74 dX4_fewest_54 rfl rfl (fun c_54 => ?_) (fun c_54 => ?_)
                  · refine g_iinc C (nI (k + 1)) [(5, .int (nI (k + 1))), (0, .ref ((B 0) 0)), (1, .int (-1)), (2, .int (nI n)), (3, .int (nI (M - 1))), (4, .int (nI i))] dX4_fewest_74 5 rfl (nI_add k 1) (by decide) rfl ?_
                    refine g_goto C 26 dX4_fewest_77 rfl ?_
                    refine g_sub [1, 2, 3, 4, 5, 0] (lv' := [(0, .ref ((B 0) 0)), (1, .int (-1)), (2, .int (nI n)), (3, .int (nI (M - 1))), (4, .int (nI i)), (5, .int (nI (k + 1)))]) rfl ?_
                    exact ih_26 ((k + 1)) (u_51) (by omega) (by first | assumption | omega) (by_skip hI (fun z => by first | exact c_39 z.1 | exact c_54 z.2))
                  · refine g_goto C 71 dX4_fewest_57 rfl ?_
                    refine g_iload C dX4_fewest_71 5 rfl ?_
                    exact g_iret C u_51 hr dX4_fewest_73 (Nat.le_of_ble_eq_true rfl) (Nat.le_of_ble_eq_true rfl) rfl (by rw [← hM]; exact by_hit hO hI (by omega) c_39 c_54)
        refine g_sub [1, 2, 3, 4, 5, 0] (lv' := [(0, .ref ((B 0) 0)), (1, .int (-1)), (2, .int (nI n)), (3, .int (nI (M - 1))), (4, .int (nI i)), (5, .int 0)]) rfl ?_
        exact J_26 _ (0) (g2) (Nat.lt_succ_self _) (by first | assumption | omega) (fun j_ h => absurd h (Nat.not_lt_zero j_))
  refine g_sub [2, 3, 4, 1, 0] (lv' := [(0, .ref ((B 0) 0)), (1, .int (-1)), (2, .int (nI n)), (3, .int (nI (M - 1))), (4, .int 0)]) rfl ?_
  exact J_11 _ (0) (h2) (Nat.lt_succ_self _) (by first | assumption | omega) (fun _ _ _ => Nat.zero_le _)

set_option maxRecDepth 100000 in
set_option maxHeartbeats 4000000 in
theorem k_X4_begunFor (l : Launch) (D : va_G) (q : Nat → ClassId) (tt : Nat → Nat) (B : Nat → Nat → Nat) (o : OC) (h1 : HC) (h2 : HC) (h3 : HC) (t : TC) (g : GC) (S : Nat → Int32) (N : Nat) (x : Int32) (y : Int32) (hG : Gd S N) (rS : HR S N h1) : MI l D q tt yX4_begunFor wsX4_begunFor ({ frames := 6, cells := 0, slots := 0, locals := 149 } : Room) [.ref ((B 0) 0), .int x, .int y] (ow q B o ++ (hw q (B 1) h1 ++ (hw q (B 2) h2 ++ (hw q (B 3) h3 ++ (tw q (B 4) t ++ (sw q (B 5) g)))))) (fun (r : Int32) (u : HC) => P_begunFor S N x y r) (fun u => (ow q B o ++ (hw q (B 1) h1 ++ (hw q (B 2) u ++ (hw q (B 3) h3 ++ (tw q (B 4) t ++ (sw q (B 5) g))))))) 0 0 := by
  refine MI.of RX4 [(0, .ref ((B 0) 0)), (1, .int x), (2, .int y)] (by decide) rfl rfl (Nat.le_of_ble_eq_true rfl) rfl ?_
  intro p e s m args below meth c A C hr hnm
  have w_0 : ∀ w ∈ u_ws RX4 TX4 11, w ∈ wsX4_begunFor := by decide +kernel
  have w_1 : Cond.fieldLink RX4 10 (TX4 0).1 (TX4 0).2.1 (TX4 0).2.2.1 ∈ wsX4_begunFor := by decide +kernel
  have h8 := hG.le
  have hS0 := hG.n
  refine g_aloadn C dX4_begunFor_0 0 rfl rfl ?_
  refine g_get C fx4 w_0 0 0 (v := .ref ((B 1) 0)) rfl (by decide) w_1 rfl dX4_begunFor_1 ?_
  refine g_iloadn C dX4_begunFor_4 1 rfl rfl ?_
  refine g_callWi (w1 := (ow q B o ++ (hw q (B 1) h1 ++ (hw q (B 2) h2 ++ (hw q (B 3) h3 ++ (tw q (B 4) t ++ (sw q (B 5) g))))))) (wr := ([0, 1, 2, 3, 4, 13, 14, 15, 16, 17, 18, 19, 20, 21, 22, 23, 24, 25, 26, 27, 28, 29, 30, 31, 32] : List Nat).filterMap (fun i => (ow q B o ++ (hw q (B 1) h1 ++ (hw q (B 2) h2 ++ (hw q (B 3) h3 ++ (tw q (B 4) t ++ (sw q (B 5) g))))))[i]?)) (isC := [5, 6, 7, 8, 9, 10, 11, 12]) (isR := [0, 1, 2, 3, 4, 13, 14, 15, 16, 17, 18, 19, 20, 21, 22, 23, 24, 25, 26, 27, 28, 29, 30, 31, 32]) (pm := [0, 1, 2, 3, 4, 25, 26, 27, 28, 29, 30, 31, 32, 5, 6, 7, 8, 9, 10, 11, 12, 13, 14, 15, 16, 17, 18, 19, 20, 21, 22, 23, 24]) (w1' := (fun _ => (ow q B o ++ (hw q (B 1) h1 ++ (hw q (B 2) h2 ++ (hw q (B 3) h3 ++ (tw q (B 4) t ++ (sw q (B 5) g)))))))) C (rd_V C (k_X0_has l D q tt (B 1) h1 S N x (by first | assumption | omega) (by first | assumption | omega)) gX4_begunFor_X0_has rfl rfl rfl 1 ok_X0_has rfl 0 rfl rfl (rest := []) rfl rfl (Nat.le_of_ble_eq_true rfl) dX4_begunFor_5 ⟨(Nat.le_of_ble_eq_true rfl), (Nat.le_of_ble_eq_true rfl)⟩ ⟨(Nat.le_of_ble_eq_true rfl), (Nat.le_of_ble_eq_true rfl)⟩) rfl rfl rfl (fun _ => rfl) rfl (fun r_5 _ h_5 => ?_)
  obtain rfl := h_5
  refine g_ifeqE C 21 dX4_begunFor_8 rfl rfl (fun c_8 => ?_) (fun c_8 => ?_)
  · refine g_iconst C (-1) dX4_begunFor_21 (by decide) ?_
    exact g_iret C h2 hr dX4_begunFor_22 (Nat.le_of_ble_eq_true rfl) (Nat.le_of_ble_eq_true rfl) rfl (Or.inr ⟨(fun z => by (try rw [hS0] at z); first | exact c_8 z.1 | exact c_18 z.2), rfl⟩)
  · refine g_iloadn C dX4_begunFor_11 2 rfl rfl ?_
    refine g_iconst C 1 dX4_begunFor_12 (by decide) ?_
    refine g_bipush C 20 dX4_begunFor_13 (by decide) ?_
    refine g_call0i C (rd_S C (k_X4_within l D q tt y 1 20 ) gX4_begunFor_X4_within rfl rfl rfl 3 ok_X4_within (rest := []) rfl rfl (Nat.le_of_ble_eq_true rfl) dX4_begunFor_15 ⟨(Nat.le_of_ble_eq_true rfl), (Nat.le_of_ble_eq_true rfl)⟩ ⟨(Nat.le_of_ble_eq_true rfl), (Nat.le_of_ble_eq_true rfl)⟩) (fun _ => rfl) (fun r_15 _ h_15 => ?_)
    obtain rfl := h_15
    refine g_ifneE C 23 dX4_begunFor_18 rfl rfl (fun c_18 => ?_) (fun c_18 => ?_)
    · obtain ⟨j, hj, ej, ec⟩ := ix_lt (by omega) c_8
      obtain ⟨n, hn, en, ed⟩ := ix_le (n := 20) (by omega) ⟨Int32.le_trans (by decide) c_18.1, c_18.2⟩
      refine g_aloadn C dX4_begunFor_23 0 rfl rfl ?_
      refine g_iloadn C dX4_begunFor_24 1 rfl rfl ?_
      refine g_topci (nI j) (ej) ?_
      refine g_iloadn C dX4_begunFor_25 2 rfl rfl ?_
      refine g_topci (nI n) (en) ?_
      refine g_callAi C (rd_V C (k_X4_fewBegun l D q tt B o h1 h2 h3 t g S N j n (by first | assumption | omega) (by first | assumption | omega) (by first | assumption | omega) (by first | assumption | omega)) gX4_begunFor_X4_fewest rfl rfl rfl 2 ok_X4_fewest rfl 0 rfl rfl (rest := []) rfl rfl (Nat.le_of_ble_eq_true rfl) dX4_begunFor_26 ⟨(Nat.le_of_ble_eq_true rfl), (Nat.le_of_ble_eq_true rfl)⟩ ⟨(Nat.le_of_ble_eq_true rfl), (Nat.le_of_ble_eq_true rfl)⟩) (fun r_26 u_26 h_26 => ?_)
      have few_26 := h_26
      exact g_iret C u_26 hr dX4_begunFor_29 (Nat.le_of_ble_eq_true rfl) (Nat.le_of_ble_eq_true rfl) rfl (Or.inl ⟨⟨by rw [hS0]; exact c_8, c_18⟩, by rw [ec, ed]; exact few_26⟩)
    · refine g_iconst C (-1) dX4_begunFor_21 (by decide) ?_
      exact g_iret C h2 hr dX4_begunFor_22 (Nat.le_of_ble_eq_true rfl) (Nat.le_of_ble_eq_true rfl) rfl (Or.inr ⟨(fun z => by (try rw [hS0] at z); first | exact c_8 z.1 | exact c_18 z.2), rfl⟩)

set_option maxRecDepth 100000 in
set_option maxHeartbeats 4000000 in
theorem k_X4_hiredFor (l : Launch) (D : va_G) (q : Nat → ClassId) (tt : Nat → Nat) (B : Nat → Nat → Nat) (o : OC) (h1 : HC) (h2 : HC) (h3 : HC) (t : TC) (g : GC) (S : Nat → Int32) (N : Nat) (x : Int32) (hG : Gd S N) (rS : HR S N h1) : MI l D q tt yX4_hiredFor wsX4_hiredFor ({ frames := 6, cells := 0, slots := 0, locals := 149 } : Room) [.ref ((B 0) 0), .int x] (ow q B o ++ (hw q (B 1) h1 ++ (hw q (B 2) h2 ++ (hw q (B 3) h3 ++ (tw q (B 4) t ++ (sw q (B 5) g)))))) (fun (r : Int32) (u : HC) => P_hiredFor S N x r) (fun u => (ow q B o ++ (hw q (B 1) h1 ++ (hw q (B 2) u ++ (hw q (B 3) h3 ++ (tw q (B 4) t ++ (sw q (B 5) g))))))) 0 0 := by
  refine MI.of RX4 [(0, .ref ((B 0) 0)), (1, .int x)] (by decide) rfl rfl (Nat.le_of_ble_eq_true rfl) rfl ?_
  intro p e s m args below meth c A C hr hnm
  have h8 := hG.le
  have hS0 := hG.n
  refine g_iloadn C dX4_hiredFor_0 1 rfl rfl ?_
  refine g_iconst C 1 dX4_hiredFor_1 (by decide) ?_
  refine g_bipush C 20 dX4_hiredFor_2 (by decide) ?_
  refine g_call0i C (rd_S C (k_X4_within l D q tt x 1 20 ) gX4_hiredFor_X4_within rfl rfl rfl 3 ok_X4_within (rest := []) rfl rfl (Nat.le_of_ble_eq_true rfl) dX4_hiredFor_4 ⟨(Nat.le_of_ble_eq_true rfl), (Nat.le_of_ble_eq_true rfl)⟩ ⟨(Nat.le_of_ble_eq_true rfl), (Nat.le_of_ble_eq_true rfl)⟩) (fun _ => rfl) (fun r_4 _ h_4 => ?_)
  obtain rfl := h_4
  refine g_ifeqE C 19 dX4_hiredFor_7 rfl rfl (fun c_7 => ?_) (fun c_7 => ?_)
  · refine g_iconst C (-1) dX4_hiredFor_19 (by decide) ?_
    exact g_iret C h2 hr dX4_hiredFor_20 (Nat.le_of_ble_eq_true rfl) (Nat.le_of_ble_eq_true rfl) rfl (Or.inr ⟨c_7, rfl⟩)
  · obtain ⟨n, hn, en, ed⟩ := ix_le (n := 20) (by omega) ⟨Int32.le_trans (by decide) c_7.1, c_7.2⟩
    refine g_aloadn C dX4_hiredFor_10 0 rfl rfl ?_
    refine g_iconst C (-1) dX4_hiredFor_11 (by decide) ?_
    refine g_iloadn C dX4_hiredFor_12 1 rfl rfl ?_
    refine g_topci (nI n) (en) ?_
    refine g_callAi C (rd_V C (k_X4_fewHired l D q tt B o h1 h2 h3 t g S N n (by first | assumption | omega) (by first | assumption | omega) (by first | assumption | omega)) gX4_hiredFor_X4_fewest rfl rfl rfl 2 ok_X4_fewest rfl 0 rfl rfl (rest := []) rfl rfl (Nat.le_of_ble_eq_true rfl) dX4_hiredFor_13 ⟨(Nat.le_of_ble_eq_true rfl), (Nat.le_of_ble_eq_true rfl)⟩ ⟨(Nat.le_of_ble_eq_true rfl), (Nat.le_of_ble_eq_true rfl)⟩) (fun r_13 u_13 h_13 => ?_)
    have few_13 := h_13
    refine g_goto C 20 dX4_hiredFor_16 rfl ?_
    exact g_iret C u_13 hr dX4_hiredFor_20 (Nat.le_of_ble_eq_true rfl) (Nat.le_of_ble_eq_true rfl) rfl (Or.inl ⟨c_7, by rw [ed]; exact few_13⟩)

