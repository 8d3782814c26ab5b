set_option maxRecDepth 100000 in
set_option maxHeartbeats 4000000 in
theorem k_X0_listen (l : Launch) (D : va_G) (q : Nat → ClassId) (tt : Nat → Nat) (a : Nat → Nat) (h : HC) (S : Nat → Int32) (N : Nat) (hG : Gd S N) (rS : HR S N h) : MV l D q tt yX0_listen wsX0_listen ({ frames := 1, cells := 0, slots := 0, locals := 22 } : Room) [.ref (a 0)] (hw q a h) (fun (u : (Nat → Int32) × (Nat → Int32)) => ∀ k, k < N → u.2 k = heS S N k) (fun u => (hw q a ((hL h), (hK h), (hP h), (hE h), (hR h), (hN h), (hC h), (hM h), (hZ h), u.1, u.2))) 0 0 := by
  refine MV.of RX0 [(0, .ref (a 0))] (by decide) rfl rfl (Nat.le_of_ble_eq_true rfl) rfl ?_
  intro p e s m args below meth c A C hr hnm
  have w_0 : ∀ w ∈ u_ws RX0 TX0 11, w ∈ wsX0_listen := by decide +kernel
  have w_1 : Cond.fieldLink RX0 49 (TX0 5).1 (TX0 5).2.1 (TX0 5).2.2.1 ∈ wsX0_listen := by decide +kernel
  have w_2 : Cond.fieldLink RX0 27 (TX0 9).1 (TX0 9).2.1 (TX0 9).2.2.1 ∈ wsX0_listen := by decide +kernel
  have w_3 : Cond.fieldLink RX0 24 (TX0 4).1 (TX0 4).2.1 (TX0 4).2.2.1 ∈ wsX0_listen := by decide +kernel
  have w_4 : Cond.fieldLink RX0 30 (TX0 10).1 (TX0 10).2.1 (TX0 10).2.2.1 ∈ wsX0_listen := by decide +kernel
  have h8 := hG.le
  refine g_iconst C 0 dX0_listen_0 (by decide) ?_
  refine g_istoren C [(1, .int 0), (0, .ref (a 0))] dX0_listen_1 rfl (by decide) rfl ?_
  have J_2 : ∀ (fu : Nat) (i : Nat) (j : Nat → Int32), 8 - i < fu → (i ≤ 8) → (∀ r, r < i → j r = 0) → G p l e ({ frames := 1, cells := 0, slots := 0, locals := 22 } : Room) s m args below meth c 4 D A (MQ below (va_Qv (fun (u : (Nat → Int32) × (Nat → Int32)) => ∀ k, k < N → u.2 k = heS S N k) (Bw D A (fun u => (hw q a ((hL h), (hK h), (hP h), (hE h), (hR h), (hN h), (hC h), (hM h), (hZ h), u.1, u.2)))) A) args s 0 0 A) 2 [(0, .ref (a 0)), (1, .int (nI i))] [] (hw q a ((hL h), (hK h), (hP h), (hE h), (hR h), (hN h), (hC h), (hM h), (hZ h), j, (hH h))) 0 0 := by
    intro fu
    induction fu with
    | zero =>
      intro i j hfu
      exact absurd hfu (Nat.not_lt_zero _)
    | succ fu ih =>
      intro i j hfu hi hj
      refine g_iloadn C dX0_listen_2 1 rfl rfl ?_
      refine g_bipush C 8 dX0_listen_3 (by decide) ?_
      refine g_icmpN_ge C 21 (i) (8) dX0_listen_5 rfl (by omega) (by omega) (fun c_5 => ?_) (fun c_5 => ?_)
      · refine g_iconst C 0 dX0_listen_21 (by decide) ?_
        refine g_istoren C [(1, .int 0), (0, .ref (a 0))] dX0_listen_22 rfl (by decide) rfl ?_
        have J_23 : ∀ (fu : Nat) (i : Nat) (j : Nat → Int32), N - i < fu → (i ≤ N) → (∀ r, r < 8 → j r = sumI (rmT S (nI r)) i) → G p l e ({ frames := 1, cells := 0, slots := 0, locals := 22 } : Room) s m args below meth c 4 D A (MQ below (va_Qv (fun (u : (Nat → Int32) × (Nat → Int32)) => ∀ k, k < N → u.2 k = heS S N k) (Bw D A (fun u => (hw q a ((hL h), (hK h), (hP h), (hE h), (hR h), (hN h), (hC h), (hM h), (hZ h), u.1, u.2)))) A) args s 0 0 A) 23 [(0, .ref (a 0)), (1, .int (nI i))] [] (hw q a ((hL h), (hK h), (hP h), (hE h), (hR h), (hN h), (hC h), (hM h), (hZ h), j, (hH h))) 0 0 := by
          intro fu
          induction fu with
          | zero =>
            intro i j hfu
            exact absurd hfu (Nat.not_lt_zero _)
          | succ fu ih =>
            intro i j hfu hi hj
            refine g_iloadn C dX0_listen_23 1 rfl rfl ?_
            refine g_aloadn C dX0_listen_24 0 rfl rfl ?_
            refine g_get C fx0 w_0 0 5 (v := .int (hN h)) rfl (by decide) w_1 rfl dX0_listen_25 ?_
            refine g_topci (nI N) (rS.n hG) ?_
            refine g_icmpN_ge C 67 (i) (N) dX0_listen_28 rfl (by omega) (by omega) (fun c_28 => ?_) (fun c_28 => ?_)
            · rw [show i = N from by omega] at hj
              refine g_iconst C 0 dX0_listen_67 (by decide) ?_
              refine g_istoren C [(1, .int 0), (0, .ref (a 0))] dX0_listen_68 rfl (by decide) rfl ?_
              have J_69 : ∀ (fu : Nat) (i : Nat) (hd : Nat → Int32), N - i < fu → (i ≤ N) → (∀ k, k < i → hd k = heS S N k) → G p l e ({ frames := 1, cells := 0, slots := 0, locals := 22 } : Room) s m args below meth c 4 D A (MQ below (va_Qv (fun (u : (Nat → Int32) × (Nat → Int32)) => ∀ k, k < N → u.2 k = heS S N k) (Bw D A (fun u => (hw q a ((hL h), (hK h), (hP h), (hE h), (hR h), (hN h), (hC h), (hM h), (hZ h), u.1, u.2)))) A) args s 0 0 A) 69 [(0, .ref (a 0)), (1, .int (nI i))] [] (hw q a ((hL h), (hK h), (hP h), (hE h), (hR h), (hN h), (hC h), (hM h), (hZ h), j, hd)) 0 0 := by
                intro fu
                induction fu with
                | zero =>
                  intro i hd hfu
                  exact absurd hfu (Nat.not_lt_zero _)
                | succ fu ih =>
                  intro i hd hfu hi hd_
                  refine g_iloadn C dX0_listen_69 1 rfl rfl ?_
                  refine g_aloadn C dX0_listen_70 0 rfl rfl ?_
                  refine g_get C fx0 w_0 0 5 (v := .int (hN h)) rfl (by decide) w_1 rfl dX0_listen_71 ?_
                  refine g_topci (nI N) (rS.n hG) ?_
                  refine g_icmpN_ge C 163 (i) (N) dX0_listen_74 rfl (by omega) (by omega) (fun c_74 => ?_) (fun c_74 => ?_)
                  · exact g_vret C (j, hd) hr dX0_listen_163 (Nat.le_of_ble_eq_true rfl) (Nat.le_of_ble_eq_true rfl) rfl (fun k hk => hd_ k (by omega))
                  · obtain ⟨ρ, hρ7, hρ⟩ := (hG.one (o := i) (by omega)).2.1
                    have hρ8 : ρ < 8 := by omega
                    refine g_aloadn C dX0_listen_77 0 rfl rfl ?_
                    refine g_get C fx0 w_0 0 9 (v := .ref (a 6)) rfl (by decide) w_2 rfl dX0_listen_78 ?_
                    refine g_aloadn C dX0_listen_81 0 rfl rfl ?_
                    refine g_get C fx0 w_0 0 4 (v := .ref (a 5)) rfl (by decide) w_3 rfl dX0_listen_82 ?_
                    refine g_iloadn C dX0_listen_85 1 rfl rfl ?_
                    refine g_iald C 5 (i) (f := (hR h)) rfl rfl (by omega) (by decide) dX0_listen_86 ?_
                    refine g_topci (sR S i) (rS.R (by omega)) ?_
                    refine g_call0i C (rd_S C (k_X0_around l D q tt (sR S i) ) gX0_listen_X0_around rfl rfl rfl 1 ok_X0_around (rest := [.ref (a 6)]) rfl rfl (Nat.le_of_ble_eq_true rfl) dX0_listen_87 ⟨(Nat.le_of_ble_eq_true rfl), (Nat.le_of_ble_eq_true rfl)⟩ ⟨(Nat.le_of_ble_eq_true rfl), (Nat.le_of_ble_eq_true rfl)⟩) (fun _ => rfl) (fun r_87 _ h_87 => ?_)
                    obtain rfl := h_87
                    refine g_topci (nI ρ) (by rw [hρ]; exact (ar_k ρ hρ8).1) ?_
                    refine g_iald C 6 (ρ) (f := j) rfl rfl (by omega) (by decide) dX0_listen_90 ?_
                    refine g_aloadn C dX0_listen_91 0 rfl rfl ?_
                    refine g_iloadn C dX0_listen_92 1 rfl rfl ?_
                    refine g_callAi C (rd_V C (k_X0_doesClap l D q tt a ((hL h), (hK h), (hP h), (hE h), (hR h), (hN h), (hC h), (hM h), (hZ h), j, hd) S N i (by first | assumption | omega) (by first | assumption | omega) (by first | assumption | omega)) gX0_listen_X0_doesClap rfl rfl rfl 1 ok_X0_doesClap rfl 0 rfl rfl (rest := [.int (j ρ)]) rfl rfl (Nat.le_of_ble_eq_true rfl) dX0_listen_93 ⟨(Nat.le_of_ble_eq_true rfl), (Nat.le_of_ble_eq_true rfl)⟩ ⟨(Nat.le_of_ble_eq_true rfl), (Nat.le_of_ble_eq_true rfl)⟩) (fun r_93 _ h_93 => ?_)
                    obtain rfl := h_93
                    refine g_topci (bI (sC S i = 1)) rfl ?_
                    refine g_ifeqE C 107 dX0_listen_96 rfl rfl (fun c_96 => ?_) (fun c_96 => ?_)
                    · refine g_iconst C 0 dX0_listen_107 (by decide) ?_
                      refine g_isub C dX0_listen_108 ?_
                      refine g_topci (liS S N (sR S i) (nI i)) (by rw [hj ρ hρ8, li_but1 h8 c_74, hρ]; unfold laT; rw [if_neg c_96]) ?_
                      refine g_istoren C [(2, .int (liS S N (sR S i) (nI i))), (0, .ref (a 0)), (1, .int (nI i))] dX0_listen_109 rfl (by decide) rfl ?_
                      refine g_aloadn C dX0_listen_110 1 rfl rfl ?_
                      refine g_get C fx0 w_0 0 9 (v := .ref (a 6)) rfl (by decide) w_2 rfl dX0_listen_111 ?_
                      refine g_aloadn C dX0_listen_114 1 rfl rfl ?_
                      refine g_get C fx0 w_0 0 4 (v := .ref (a 5)) rfl (by decide) w_3 rfl dX0_listen_115 ?_
                      refine g_iloadn C dX0_listen_118 2 rfl rfl ?_
                      refine g_iald C 5 (i) (f := (hR h)) rfl rfl (by omega) (by decide) dX0_listen_119 ?_
                      refine g_topci (sR S i) (rS.R (by omega)) ?_
                      refine g_iconst C 1 dX0_listen_120 (by decide) ?_
                      refine g_iadd C dX0_listen_121 ?_
                      refine g_call0i C (rd_S C (k_X0_around l D q tt ((sR S i) + 1) ) gX0_listen_X0_around rfl rfl rfl 1 ok_X0_around (rest := [.ref (a 6)]) rfl rfl (Nat.le_of_ble_eq_true rfl) dX0_listen_122 ⟨(Nat.le_of_ble_eq_true rfl), (Nat.le_of_ble_eq_true rfl)⟩ ⟨(Nat.le_of_ble_eq_true rfl), (Nat.le_of_ble_eq_true rfl)⟩) (fun _ => rfl) (fun r_122 _ h_122 => ?_)
                      obtain rfl := h_122
                      refine g_topci (nI ((ρ + 1) % 8)) (by rw [hρ]; exact (ar_k ρ hρ8).2.1) ?_
                      refine g_iald C 6 (((ρ + 1) % 8)) (f := j) rfl rfl (by omega) (by decide) dX0_listen_125 ?_
                      refine g_aloadn C dX0_listen_126 1 rfl rfl ?_
                      refine g_get C fx0 w_0 0 9 (v := .ref (a 6)) rfl (by decide) w_2 rfl dX0_listen_127 ?_
                      refine g_aloadn C dX0_listen_130 1 rfl rfl ?_
                      refine g_get C fx0 w_0 0 4 (v := .ref (a 5)) rfl (by decide) w_3 rfl dX0_listen_131 ?_
                      refine g_iloadn C dX0_listen_134 2 rfl rfl ?_
                      refine g_iald C 5 (i) (f := (hR h)) rfl rfl (by omega) (by decide) dX0_listen_135 ?_
                      refine g_topci (sR S i) (rS.R (by omega)) ?_
                      refine g_iconst C 1 dX0_listen_136 (by decide) ?_
                      refine g_isub C dX0_listen_137 ?_
                      refine g_call0i C (rd_S C (k_X0_around l D q tt ((sR S i) - 1) ) gX0_listen_X0_around rfl rfl rfl 1 ok_X0_around (rest := [.ref (a 6), .int (j ((ρ + 1) % 8))]) rfl rfl (Nat.le_of_ble_eq_true rfl) dX0_listen_138 ⟨(Nat.le_of_ble_eq_true rfl), (Nat.le_of_ble_eq_true rfl)⟩ ⟨(Nat.le_of_ble_eq_true rfl), (Nat.le_of_ble_eq_true rfl)⟩) (fun _ => rfl) (fun r_138 _ h_138 => ?_)
                      obtain rfl := h_138
                      refine g_topci (nI ((ρ + 7) % 8)) (by rw [hρ]; exact (ar_k ρ hρ8).2.2.1) ?_
                      refine g_iald C 6 (((ρ + 7) % 8)) (f := j) rfl rfl (by omega) (by decide) dX0_listen_141 ?_
                      refine g_iadd C dX0_listen_142 ?_
                      refine g_topci (liS S N (nxR (sR S i)) (-1) + liS S N (pvR (sR S i)) (-1)) (by rw [hj _ (by omega), hj _ (by omega), li_all h8, li_all h8, hρ, (ar_k ρ hρ8).2.2.2.1, (ar_k ρ hρ8).2.2.2.2]) ?_
                      refine g_istoren C [(3, .int (liS S N (nxR (sR S i)) (-1) + liS S N (pvR (sR S i)) (-1))), (2, .int (liS S N (sR S i) (nI i))), (0, .ref (a 0)), (1, .int (nI i))] dX0_listen_143 rfl (by decide) rfl ?_
                      refine g_aloadn C dX0_listen_144 2 rfl rfl ?_
                      refine g_get C fx0 w_0 0 10 (v := .ref (a 7)) rfl (by decide) w_4 rfl dX0_listen_145 ?_
                      refine g_iloadn C dX0_listen_148 3 rfl rfl ?_
                      refine g_iloadn C dX0_listen_149 1 rfl rfl ?_
                      refine g_aloadn C dX0_listen_150 2 rfl rfl ?_
                      refine g_iloadn C dX0_listen_151 0 rfl rfl ?_
                      refine g_callAi C (rd_V C (k_X0_throughWall l D q tt a ((hL h), (hK h), (hP h), (hE h), (hR h), (hN h), (hC h), (hM h), (hZ h), j, hd) S N (liS S N (nxR (sR S i)) (-1) + liS S N (pvR (sR S i)) (-1)) (by first | assumption | omega) (by first | assumption | omega)) gX0_listen_X0_throughWall rfl rfl rfl 1 ok_X0_throughWall rfl 0 rfl rfl (rest := [.int (liS S N (sR S i) (nI i)), .int (nI i), .ref (a 7)]) rfl rfl (Nat.le_of_ble_eq_true rfl) dX0_listen_152 ⟨(Nat.le_of_ble_eq_true rfl), (Nat.le_of_ble_eq_true rfl)⟩ ⟨(Nat.le_of_ble_eq_true rfl), (Nat.le_of_ble_eq_true rfl)⟩) (fun r_152 _ h_152 => ?_)
                      obtain rfl := h_152
                      refine g_topci ((liS S N (nxR (sR S i)) (-1) + liS S N (pvR (sR S i)) (-1)) / (1 + S 5)) rfl ?_
                      refine g_iadd C dX0_listen_155 ?_
                      refine g_topci (heS S N i) (rfl) ?_
                      refine g_iast C 7 (i) (f := hd) rfl rfl (by omega) (by decide) dX0_listen_156 (hw q a ((hL h), (hK h), (hP h), (hE h), (hR h), (hN h), (hC h), (hM h), (hZ h), j, (upd hd i (heS S N i)))) rfl ?_
                      refine g_iinc C (nI (i + 1)) [(1, .int (nI (i + 1))), (3, .int (liS S N (nxR (sR S i)) (-1) + liS S N (pvR (sR S i)) (-1))), (2, .int (liS S N (sR S i) (nI i))), (0, .ref (a 0))] dX0_listen_157 3 rfl (nI_add i 1) (by decide) rfl ?_
                      refine g_goto C 69 dX0_listen_160 rfl ?_
                      refine g_sub [3, 0] (lv' := [(0, .ref (a 0)), (1, .int (nI (i + 1)))]) rfl ?_
                      exact ih ((i + 1)) ((upd hd i (heS S N i))) (by omega) (by first | assumption | omega) (fun k h => by
                          by_cases e : k = i
                          · subst e; exact pk_us
                          · rw [pk_un e]; exact hd_ k (by omega))
                    · refine g_aloadn C dX0_listen_99 0 rfl rfl ?_
                      refine g_iloadn C dX0_listen_100 1 rfl rfl ?_
                      refine g_callAi C (rd_V C (k_X0_loud l D q tt a ((hL h), (hK h), (hP h), (hE h), (hR h), (hN h), (hC h), (hM h), (hZ h), j, hd) S N i (by first | assumption | omega) (by first | assumption | omega) (by first | assumption | omega)) gX0_listen_X0_loud rfl rfl rfl 1 ok_X0_loud rfl 0 rfl rfl (rest := [.int (j ρ)]) rfl rfl (Nat.le_of_ble_eq_true rfl) dX0_listen_101 ⟨(Nat.le_of_ble_eq_true rfl), (Nat.le_of_ble_eq_true rfl)⟩ ⟨(Nat.le_of_ble_eq_true rfl), (Nat.le_of_ble_eq_true rfl)⟩) (fun r_101 _ h_101 => ?_)
                      obtain rfl := h_101
                      refine g_topci (ldS S i) rfl ?_
                      refine g_goto C 108 dX0_listen_104 rfl ?_
                      refine g_isub C dX0_listen_108 ?_
                      refine g_topci (liS S N (sR S i) (nI i)) (by rw [hj ρ hρ8, li_but1 h8 c_74, hρ]; unfold laT; rw [if_pos c_96]) ?_
                      refine g_istoren C [(2, .int (liS S N (sR S i) (nI i))), (0, .ref (a 0)), (1, .int (nI i))] dX0_listen_109 rfl (by decide) rfl ?_
                      refine g_aloadn C dX0_listen_110 1 rfl rfl ?_
                      refine g_get C fx0 w_0 0 9 (v := .ref (a 6)) rfl (by decide) w_2 rfl dX0_listen_111 ?_
                      refine g_aloadn C dX0_listen_114 1 rfl rfl ?_
                      refine g_get C fx0 w_0 0 4 (v := .ref (a 5)) rfl (by decide) w_3 rfl dX0_listen_115 ?_
                      refine g_iloadn C dX0_listen_118 2 rfl rfl ?_
                      refine g_iald C 5 (i) (f := (hR h)) rfl rfl (by omega) (by decide) dX0_listen_119 ?_
                      refine g_topci (sR S i) (rS.R (by omega)) ?_
                      refine g_iconst C 1 dX0_listen_120 (by decide) ?_
                      refine g_iadd C dX0_listen_121 ?_
                      refine g_call0i C (rd_S C (k_X0_around l D q tt ((sR S i) + 1) ) gX0_listen_X0_around rfl rfl rfl 1 ok_X0_around (rest := [.ref (a 6)]) rfl rfl (Nat.le_of_ble_eq_true rfl) dX0_listen_122 ⟨(Nat.le_of_ble_eq_true rfl), (Nat.le_of_ble_eq_true rfl)⟩ ⟨(Nat.le_of_ble_eq_true rfl), (Nat.le_of_ble_eq_true rfl)⟩) (fun _ => rfl) (fun r_122 _ h_122 => ?_)
                      obtain rfl := h_122
                      refine g_topci (nI ((ρ + 1) % 8)) (by rw [hρ]; exact (ar_k ρ hρ8).2.1) ?_
                      refine g_iald C 6 (((ρ + 1) % 8)) (f := j) rfl rfl (by omega) (by decide) dX0_listen_125 ?_
                      refine g_aloadn C dX0_listen_126 1 rfl rfl ?_
                      refine g_get C fx0 w_0 0 9 (v := .ref (a 6)) rfl (by decide) w_2 rfl dX0_listen_127 ?_
                      refine g_aloadn C dX0_listen_130 1 rfl rfl ?_
                      refine g_get C fx0 w_0 0 4 (v := .ref (a 5)) rfl (by decide) w_3 rfl dX0_listen_131 ?_
                      refine g_iloadn C dX0_listen_134 2 rfl rfl ?_
                      refine g_iald C 5 (i) (f := (hR h)) rfl rfl (by omega) (by decide) dX0_listen_135 ?_
                      refine g_topci (sR S i) (rS.R (by omega)) ?_
                      refine g_iconst C 1 dX0_listen_136 (by decide) ?_
                      refine g_isub C dX0_listen_137 ?_
                      refine g_call0i C (rd_S C (k_X0_around l D q tt ((sR S i) - 1) ) gX0_listen_X0_around rfl rfl rfl 1 ok_X0_around (rest := [.ref (a 6), .int (j ((ρ + 1) % 8))]) rfl rfl (Nat.le_of_ble_eq_true rfl) dX0_listen_138 ⟨(Nat.le_of_ble_eq_true rfl), (Nat.le_of_ble_eq_true rfl)⟩ ⟨(Nat.le_of_ble_eq_true rfl), (Nat.le_of_ble_eq_true rfl)⟩) (fun _ => rfl) (fun r_138 _ h_138 => ?_)
                      obtain rfl := h_138
                      refine g_topci (nI ((ρ + 7) % 8)) (by rw [hρ]; exact (ar_k ρ hρ8).2.2.1) ?_
                      refine g_iald C 6 (((ρ + 7) % 8)) (f := j) rfl rfl (by omega) (by decide) dX0_listen_141 ?_
                      refine g_iadd C dX0_listen_142 ?_
                      refine g_topci (liS S N (nxR (sR S i)) (-1) + liS S N (pvR (sR S i)) (-1)) (by rw [hj _ (by omega), hj _ (by omega), li_all h8, li_all h8, hρ, (ar_k ρ hρ8).2.2.2.1, (ar_k ρ hρ8).2.2.2.2]) ?_
                      refine g_istoren C [(3, .int (liS S N (nxR (sR S i)) (-1) + liS S N (pvR (sR S i)) (-1))), (2, .int (liS S N (sR S i) (nI i))), (0, .ref (a 0)), (1, .int (nI i))] dX0_listen_143 rfl (by decide) rfl ?_
                      refine g_aloadn C dX0_listen_144 2 rfl rfl ?_
                      refine g_get C fx0 w_0 0 10 (v := .ref (a 7)) rfl (by decide) w_4 rfl dX0_listen_145 ?_
                      refine g_iloadn C dX0_listen_148 3 rfl rfl ?_
                      refine g_iloadn C dX0_listen_149 1 rfl rfl ?_
                      refine g_aloadn C dX0_listen_150 2 rfl rfl ?_
                      refine g_iloadn C dX0_listen_151 0 rfl rfl ?_
                      refine g_callAi C (rd_V C (k_X0_throughWall l D q tt a ((hL h), (hK h), (hP h), (hE h), (hR h), (hN h), (hC h), (hM h), (hZ h), j, hd) S N (liS S N (nxR (sR S i)) (-1) + liS S N (pvR (sR S i)) (-1)) (by first | assumption | omega) (by first | assumption | omega)) gX0_listen_X0_throughWall rfl rfl rfl 1 ok_X0_throughWall rfl 0 rfl rfl (rest := [.int (liS S N (sR S i) (nI i)), .int (nI i), .ref (a 7)]) rfl rfl (Nat.le_of_ble_eq_true rfl) dX0_listen_152 ⟨(Nat.le_of_ble_eq_true rfl), (Nat.le_of_ble_eq_true rfl)⟩ ⟨(Nat.le_of_ble_eq_true rfl), (Nat.le_of_ble_eq_true rfl)⟩) (fun r_152 _ h_152 => ?_)
                      obtain rfl := h_152
                      refine g_topci ((liS S N (nxR (sR S i)) (-1) + liS S N (pvR (sR S i)) (-1)) / (1 + S 5)) rfl ?_
                      refine g_iadd C dX0_listen_155 ?_
                      refine g_topci (heS S N i) (rfl) ?_
                      refine g_iast C 7 (i) (f := hd) rfl rfl (by omega) (by decide) dX0_listen_156 (hw q a ((hL h), (hK h), (hP h), (hE h), (hR h), (hN h), (hC h), (hM h), (hZ h), j, (upd hd i (heS S N i)))) rfl ?_
                      refine g_iinc C (nI (i + 1)) [(1, .int (nI (i + 1))), (3, .int (liS S N (nxR (sR S i)) (-1) + liS S N (pvR (sR S i)) (-1))), (2, .int (liS S N (sR S i) (nI i))), (0, .ref (a 0))] dX0_listen_157 3 rfl (nI_add i 1) (by decide) rfl ?_
                      refine g_goto C 69 dX0_listen_160 rfl ?_
                      refine g_sub [3, 0] (lv' := [(0, .ref (a 0)), (1, .int (nI (i + 1)))]) rfl ?_
                      exact ih ((i + 1)) ((upd hd i (heS S N i))) (by omega) (by first | assumption | omega) (fun k h => by
                          by_cases e : k = i
                          · subst e; exact pk_us
                          · rw [pk_un e]; exact hd_ k (by omega))
              refine g_sub [1, 0] (lv' := [(0, .ref (a 0)), (1, .int 0)]) rfl ?_
              exact J_69 _ (0) ((hH h)) (Nat.lt_succ_self _) (by first | assumption | omega) (fun r h => absurd h (Nat.not_lt_zero r))
            · refine g_aloadn C dX0_listen_31 0 rfl rfl ?_
              refine g_iloadn C dX0_listen_32 1 rfl rfl ?_
              refine g_callAi C (rd_V C (k_X0_doesClap l D q tt a ((hL h), (hK h), (hP h), (hE h), (hR h), (hN h), (hC h), (hM h), (hZ h), j, (hH h)) S N i (by first | assumption | omega) (by first | assumption | omega) (by first | assumption | omega)) gX0_listen_X0_doesClap rfl rfl rfl 1 ok_X0_doesClap rfl 0 rfl rfl (rest := []) rfl rfl (Nat.le_of_ble_eq_true rfl) dX0_listen_33 ⟨(Nat.le_of_ble_eq_true rfl), (Nat.le_of_ble_eq_true rfl)⟩ ⟨(Nat.le_of_ble_eq_true rfl), (Nat.le_of_ble_eq_true rfl)⟩) (fun r_33 _ h_33 => ?_)
              obtain rfl := h_33
              refine g_topci (bI (sC S i = 1)) rfl ?_
              refine g_ifeqE C 61 dX0_listen_36 rfl rfl (fun c_36 => ?_) (fun c_36 => ?_)
              · have hj61 : ∀ r, r < 8 → j r = sumI (rmT S (nI r)) (i + 1) := rm_stay hj c_36
                refine g_iinc C (nI (i + 1)) [(1, .int (nI (i + 1))), (0, .ref (a 0))] dX0_listen_61 1 rfl (nI_add i 1) (by decide) rfl ?_
                refine g_goto C 23 dX0_listen_64 rfl ?_
                refine g_sub [1, 0] (lv' := [(0, .ref (a 0)), (1, .int (nI (i + 1)))]) rfl ?_
                exact ih ((i + 1)) (j) (by omega) (by first | assumption | omega) (by first | exact hj61 | exact hj60)
              · obtain ⟨ρ, hρ7, hρ⟩ := (hG.one (o := i) (by omega)).2.1
                have hρ8 : ρ < 8 := by omega
                refine g_aloadn C dX0_listen_39 0 rfl rfl ?_
                refine g_get C fx0 w_0 0 9 (v := .ref (a 6)) rfl (by decide) w_2 rfl dX0_listen_40 ?_
                refine g_aloadn C dX0_listen_43 0 rfl rfl ?_
                refine g_get C fx0 w_0 0 4 (v := .ref (a 5)) rfl (by decide) w_3 rfl dX0_listen_44 ?_
                refine g_iloadn C dX0_listen_47 1 rfl rfl ?_
                refine g_iald C 5 (i) (f := (hR h)) rfl rfl (by omega) (by decide) dX0_listen_48 ?_
                refine g_topci (sR S i) (rS.R (by omega)) ?_
                refine g_call0i C (rd_S C (k_X0_around l D q tt (sR S i) ) gX0_listen_X0_around rfl rfl rfl 1 ok_X0_around (rest := [.ref (a 6)]) rfl rfl (Nat.le_of_ble_eq_true rfl) dX0_listen_49 ⟨(Nat.le_of_ble_eq_true rfl), (Nat.le_of_ble_eq_true rfl)⟩ ⟨(Nat.le_of_ble_eq_true rfl), (Nat.le_of_ble_eq_true rfl)⟩) (fun _ => rfl) (fun r_49 _ h_49 => ?_)
                obtain rfl := h_49
                refine g_topci (nI ρ) (by rw [hρ]; exact (ar_k ρ hρ8).1) ?_
                refine g_dup2 C dX0_listen_52 rfl rfl ?_
                refine g_iald C 6 (ρ) (f := j) rfl rfl (by omega) (by decide) dX0_listen_53 ?_
                refine g_aloadn C dX0_listen_54 0 rfl rfl ?_
                refine g_iloadn C dX0_listen_55 1 rfl rfl ?_
                refine g_callAi C (rd_V C (k_X0_loud l D q tt a ((hL h), (hK h), (hP h), (hE h), (hR h), (hN h), (hC h), (hM h), (hZ h), j, (hH h)) S N i (by first | assumption | omega) (by first | assumption | omega) (by first | assumption | omega)) gX0_listen_X0_loud rfl rfl rfl 1 ok_X0_loud rfl 0 rfl rfl (rest := [.int (j ρ), .int (nI ρ), .ref (a 6)]) rfl rfl (Nat.le_of_ble_eq_true rfl) dX0_listen_56 ⟨(Nat.le_of_ble_eq_true rfl), (Nat.le_of_ble_eq_true rfl)⟩ ⟨(Nat.le_of_ble_eq_true rfl), (Nat.le_of_ble_eq_true rfl)⟩) (fun r_56 _ h_56 => ?_)
                obtain rfl := h_56
                refine g_topci (ldS S i) rfl ?_
                refine g_iadd C dX0_listen_59 ?_
                refine g_iast C 6 (ρ) (f := j) rfl rfl (by omega) (by decide) dX0_listen_60 (hw q a ((hL h), (hK h), (hP h), (hE h), (hR h), (hN h), (hC h), (hM h), (hZ h), (upd j ρ ((j ρ) + (ldS S i))), (hH h))) rfl ?_
                have hj61 : ∀ r, r < 8 → (upd j ρ ((j ρ) + (ldS S i))) r = sumI (rmT S (nI r)) (i + 1) := rm_step hj hρ8 hρ c_36
                refine g_iinc C (nI (i + 1)) [(1, .int (nI (i + 1))), (0, .ref (a 0))] dX0_listen_61 1 rfl (nI_add i 1) (by decide) rfl ?_
                refine g_goto C 23 dX0_listen_64 rfl ?_
                refine g_sub [1, 0] (lv' := [(0, .ref (a 0)), (1, .int (nI (i + 1)))]) rfl ?_
                exact ih ((i + 1)) ((upd j ρ ((j ρ) + (ldS S i)))) (by omega) (by first | assumption | omega) (by first | exact hj61 | exact hj60)
        refine g_sub [1, 0] (lv' := [(0, .ref (a 0)), (1, .int 0)]) rfl ?_
        exact J_23 _ (0) (j) (Nat.lt_succ_self _) (by first | assumption | omega) (fun r h => hj r (by omega))
      · refine g_aloadn C dX0_listen_8 0 rfl rfl ?_
        refine g_get C fx0 w_0 0 9 (v := .ref (a 6)) rfl (by decide) w_2 rfl dX0_listen_9 ?_
        refine g_iloadn C dX0_listen_12 1 rfl rfl ?_
        refine g_iconst C 0 dX0_listen_13 (by decide) ?_
        refine g_iast C 6 (i) (f := j) rfl rfl (by omega) (by decide) dX0_listen_14 (hw q a ((hL h), (hK h), (hP h), (hE h), (hR h), (hN h), (hC h), (hM h), (hZ h), (upd j i 0), (hH h))) rfl ?_
        refine g_iinc C (nI (i + 1)) [(1, .int (nI (i + 1))), (0, .ref (a 0))] dX0_listen_15 1 rfl (nI_add i 1) (by decide) rfl ?_
        refine g_goto C 2 dX0_listen_18 rfl ?_
        refine g_sub [1, 0] (lv' := [(0, .ref (a 0)), (1, .int (nI (i + 1)))]) rfl ?_
        exact ih ((i + 1)) ((upd j i 0)) (by omega) (by first | assumption | omega) (fun r h => by
            by_cases e : r = i
            · subst e; exact pk_us
            · rw [pk_un e]; exact hj r (by omega))
  refine g_sub [1, 0] (lv' := [(0, .ref (a 0)), (1, .int 0)]) rfl ?_
  exact J_2 _ (0) ((hJ h)) (Nat.lt_succ_self _) (by first | assumption | omega) (fun r h => absurd h (Nat.not_lt_zero r))

set_option maxRecDepth 100000 in
set_option maxHeartbeats 4000000 in
theorem k_X0_hears (l : Launch) (D : va_G) (q : Nat → ClassId) (tt : Nat → Nat) (a : Nat → Nat) (h : HC) (S : Nat → Int32) (N : Nat) (o : Nat) (hG : Gd S N) (rS : HR S N h) (ho : o < N) : MI l D q tt yX0_hears wsX0_hears ({ frames := 2, cells := 0, slots := 0, locals := 45 } : Room) [.ref (a 0), .int (nI o)] (hw q a h) (fun (r : Int32) (u : (Nat → Int32) × (Nat → Int32)) => r = (heS S N o)) (fun u => (hw q a ((hL h), (hK h), (hP h), (hE h), (hR h), (hN h), (hC h), (hM h), (hZ h), u.1, u.2))) 0 0 := by
  refine MI.of RX0 [(0, .ref (a 0)), (1, .int (nI o))] (by decide) rfl rfl (Nat.le_of_ble_eq_true rfl) rfl ?_
  intro p e s m args below meth c A C hr hnm
  have w_0 : ∀ w ∈ u_ws RX0 TX0 11, w ∈ wsX0_hears := by decide +kernel
  have w_1 : Cond.fieldLink RX0 30 (TX0 10).1 (TX0 10).2.1 (TX0 10).2.2.1 ∈ wsX0_hears := by decide +kernel
  have h8 := hG.le
  refine g_aloadn C dX0_hears_0 0 rfl rfl ?_
  refine g_callAv C (rd_V C (k_X0_listen l D q tt a h S N (by first | assumption | omega) (by first | assumption | omega)) gX0_hears_X0_listen rfl rfl rfl 0 ok_X0_listen rfl 0 rfl rfl (rest := []) rfl rfl (Nat.le_of_ble_eq_true rfl) dX0_hears_1 ⟨(Nat.le_of_ble_eq_true rfl), (Nat.le_of_ble_eq_true rfl)⟩ ⟨(Nat.le_of_ble_eq_true rfl), (Nat.le_of_ble_eq_true rfl)⟩) (fun u_1 h_1 => ?_)
  have hh_1 := h_1
  refine g_aloadn C dX0_hears_4 0 rfl rfl ?_
  refine g_get C fx0 w_0 0 10 (v := .ref (a 7)) rfl (by decide) w_1 rfl dX0_hears_5 ?_
  refine g_iloadn C dX0_hears_8 1 rfl rfl ?_
  refine g_iald C 7 (o) (f := u_1.2) rfl rfl (by omega) (by decide) dX0_hears_9 ?_
  refine g_topci (heS S N o) (hh_1 o ho) ?_
  exact g_iret C (u_1.1, u_1.2) hr dX0_hears_10 (Nat.le_of_ble_eq_true rfl) (Nat.le_of_ble_eq_true rfl) rfl (rfl)

set_option maxRecDepth 100000 in
set_option maxHeartbeats 4000000 in
theorem k_X0_passOne (l : Launch) (D : va_G) (q : Nat → ClassId) (tt : Nat → Nat) (a : Nat → Nat) (h : HC) (S : Nat → Int32) (N : Nat) (hG : Gd S N) (rS : HR S N h) : MV l D q tt yX0_passOne wsX0_passOne ({ frames := 2, cells := 0, slots := 0, locals := 45 } : Room) [.ref (a 0)] (hw q a h) (fun (u : HC) => HR (goS S N) N u) (fun u => (hw q a u)) 0 0 := by
  refine MV.of RX0 [(0, .ref (a 0))] (by decide) rfl rfl (Nat.le_of_ble_eq_true rfl) rfl ?_
  intro p e s m args below meth c A C hr hnm
  have w_0 : ∀ w ∈ u_ws RX0 TX0 11, w ∈ wsX0_passOne := by decide +kernel
  have w_1 : Cond.fieldLink RX0 49 (TX0 5).1 (TX0 5).2.1 (TX0 5).2.2.1 ∈ wsX0_passOne := by decide +kernel
  have w_2 : Cond.fieldLink RX0 52 (TX0 6).1 (TX0 6).2.1 (TX0 6).2.2.1 ∈ wsX0_passOne := by decide +kernel
  have w_3 : Cond.fieldLink RX0 55 (TX0 7).1 (TX0 7).2.1 (TX0 7).2.2.1 ∈ wsX0_passOne := by decide +kernel
  have w_4 : Cond.fieldLink RX0 30 (TX0 10).1 (TX0 10).2.1 (TX0 10).2.2.1 ∈ wsX0_passOne := by decide +kernel
  have w_5 : Cond.fieldLink RX0 18 (TX0 2).1 (TX0 2).2.1 (TX0 2).2.2.1 ∈ wsX0_passOne := by decide +kernel
  have w_6 : Cond.methodLinkNest RX0 93 yX4_heldPride "HiredClaque" ∈ nwL := by decide +kernel
  have w_7 : Cond.static yX4_heldPride ∈ wsX0_passOne := by decide +kernel
  have w_8 : Cond.initialized yX4_heldPride.cls ∈ wsX0_passOne := by decide +kernel
  have h8 := hG.le
  refine g_aloadn C dX0_passOne_0 0 rfl rfl ?_
  refine g_callAv C (rd_V C (k_X0_listen l D q tt a h S N (by first | assumption | omega) (by first | assumption | omega)) gX0_passOne_X0_listen rfl rfl rfl 0 ok_X0_listen rfl 0 rfl rfl (rest := []) rfl rfl (Nat.le_of_ble_eq_true rfl) dX0_passOne_1 ⟨(Nat.le_of_ble_eq_true rfl), (Nat.le_of_ble_eq_true rfl)⟩ ⟨(Nat.le_of_ble_eq_true rfl), (Nat.le_of_ble_eq_true rfl)⟩) (fun u_1 h_1 => ?_)
  have hh_1 := h_1
  refine g_iconst C 0 dX0_passOne_4 (by decide) ?_
  refine g_istoren C [(1, .int 0), (0, .ref (a 0))] dX0_passOne_5 rfl (by decide) rfl ?_
  refine g_iconst C 0 dX0_passOne_6 (by decide) ?_
  refine g_istoren C [(2, .int 0), (1, .int 0), (0, .ref (a 0))] dX0_passOne_7 rfl (by decide) rfl ?_
  have J_8 : ∀ (fu : Nat) (i : Nat) (pr : Nat → Int32), N - i < fu → (i ≤ N) → (∀ k, k < N → pr k = if k < i then sP (goS S N) k else sP S k) → G p l e ({ frames := 2, cells := 0, slots := 0, locals := 45 } : Room) s m args below meth c 3 D A (MQ below (va_Qv (fun (u : HC) => HR (goS S N) N u) (Bw D A (fun u => (hw q a u))) A) args s 0 0 A) 8 [(0, .ref (a 0)), (1, .int (nI (clN (goS S N) i))), (2, .int (nI i))] [] (hw q a ((hL h), (hK h), pr, (hE h), (hR h), (hN h), (hC h), (hM h), (hZ h), u_1.1, u_1.2)) 0 0 := by
    intro fu
    induction fu with
    | zero =>
      intro i pr hfu
      exact absurd hfu (Nat.not_lt_zero _)
    | succ fu ih =>
      intro i pr hfu hi hp
      refine g_iloadn C dX0_passOne_8 2 rfl rfl ?_
      refine g_aloadn C dX0_passOne_9 0 rfl rfl ?_
      refine g_get C fx0 w_0 0 5 (v := .int (hN h)) rfl (by decide) w_1 rfl dX0_passOne_10 ?_
      refine g_topci (nI N) (rS.n hG) ?_
      refine g_icmpN_ge C 64 (i) (N) dX0_passOne_13 rfl (by omega) (by omega) (fun c_13 => ?_) (fun c_13 => ?_)
      · refine g_aloadn C dX0_passOne_64 0 rfl rfl ?_
        refine g_iloadn C dX0_passOne_65 1 rfl rfl ?_
        refine g_put C fx0 w_0 0 6 rfl (by decide) w_2 rfl rfl rfl (Nat.le_of_ble_eq_true rfl) dX0_passOne_66 (hw q a ((hL h), (hK h), pr, (hE h), (hR h), (hN h), (nI (clN (goS S N) i)), (hM h), (hZ h), u_1.1, u_1.2)) rfl ?_
        refine g_aloadn C dX0_passOne_69 0 rfl rfl ?_
        refine g_dup C dX0_passOne_70 rfl ?_
        refine g_get C fx0 w_0 0 7 (v := .int (hM h)) rfl (by decide) w_3 rfl dX0_passOne_71 ?_
        refine g_topci (S 1) (rS.m) ?_
        refine g_iconst C 1 dX0_passOne_74 (by decide) ?_
        refine g_iadd C dX0_passOne_75 ?_
        refine g_put C fx0 w_0 0 7 rfl (by decide) w_3 rfl rfl rfl (Nat.le_of_ble_eq_true rfl) dX0_passOne_76 (hw q a ((hL h), (hK h), pr, (hE h), (hR h), (hN h), (nI (clN (goS S N) i)), ((S 1) + 1), (hZ h), u_1.1, u_1.2)) rfl ?_
        exact g_vret C ((hL h), (hK h), pr, (hE h), (hR h), (hN h), (nI (clN (goS S N) i)), ((S 1) + 1), (hZ h), u_1.1, u_1.2) hr dX0_passOne_79 (Nat.le_of_ble_eq_true rfl) (Nat.le_of_ble_eq_true rfl) rfl (hr_go hG rS (by have e : i = N := (by omega); rw [e]) (fun k hk => (hp k hk).trans (if_pos (by omega))) rfl rfl rfl rfl rfl rfl rfl)
      · refine g_aloadn C dX0_passOne_16 0 rfl rfl ?_
        refine g_get C fx0 w_0 0 10 (v := .ref (a 7)) rfl (by decide) w_4 rfl dX0_passOne_17 ?_
        refine g_iloadn C dX0_passOne_20 2 rfl rfl ?_
        refine g_iald C 7 (i) (f := u_1.2) rfl rfl (by omega) (by decide) dX0_passOne_21 ?_
        refine g_topci (heS S N i) (hh_1 i (by omega)) ?_
        refine g_aloadn C dX0_passOne_22 0 rfl rfl ?_
        refine g_iloadn C dX0_passOne_23 2 rfl rfl ?_
        refine g_callAi C (rd_V C (k_X0_needs l D q tt a ((hL h), (hK h), (hP h), (hE h), (hR h), (hN h), (hC h), (hM h), (hZ h), u_1.1, u_1.2) S N pr i (by first | assumption | omega) (by first | assumption | omega) (by first | assumption | omega) (by rw [hp i (by omega), if_neg (by omega)])) gX0_passOne_X0_needs rfl rfl rfl 1 ok_X0_needs rfl 0 rfl rfl (rest := [.int (heS S N i)]) rfl rfl (Nat.le_of_ble_eq_true rfl) dX0_passOne_24 ⟨(Nat.le_of_ble_eq_true rfl), (Nat.le_of_ble_eq_true rfl)⟩ ⟨(Nat.le_of_ble_eq_true rfl), (Nat.le_of_ble_eq_true rfl)⟩) (fun r_24 _ h_24 => ?_)
        obtain rfl := h_24
        refine g_wsc (hw q a ((hL h), (hK h), pr, (hE h), (hR h), (hN h), (hC h), (hM h), (hZ h), u_1.1, u_1.2)) rfl ?_
        refine g_topci (neS S i) rfl ?_
        refine g_icmp_lt C 36 dX0_passOne_27 rfl (fun c_27 => ?_) (fun c_27 => ?_)
        · refine g_lvc 0 (lv' := [(0, .ref (a 0)), (1, .int (nI (clN (goS S N) (i + 1)))), (2, .int (nI i))]) (by rw [cl_no hG.go (i := i) (by omega) (by rw [goS_C (by omega)]; exact bI_n (Int32.not_le.mpr c_27))]) ?_
          refine g_aloadn C dX0_passOne_36 0 rfl rfl ?_
          refine g_get C fx0 w_0 0 2 (v := .ref (a 3)) rfl (by decide) w_5 rfl dX0_passOne_37 ?_
          refine g_iloadn C dX0_passOne_40 2 rfl rfl ?_
          refine g_aloadn C dX0_passOne_41 0 rfl rfl ?_
          refine g_get C fx0 w_0 0 2 (v := .ref (a 3)) rfl (by decide) w_5 rfl dX0_passOne_42 ?_
          refine g_iloadn C dX0_passOne_45 2 rfl rfl ?_
          refine g_iald C 3 (i) (f := pr) rfl rfl (by omega) (by decide) dX0_passOne_46 ?_
          refine g_topci (sP S i) (by rw [hp i (by omega), if_neg (by omega)]) ?_
          refine g_aloadn C dX0_passOne_47 0 rfl rfl ?_
          refine g_get C fx0 w_0 0 10 (v := .ref (a 7)) rfl (by decide) w_4 rfl dX0_passOne_48 ?_
          refine g_iloadn C dX0_passOne_51 2 rfl rfl ?_
          refine g_iald C 7 (i) (f := u_1.2) rfl rfl (by omega) (by decide) dX0_passOne_52 ?_
          refine g_topci (heS S N i) (hh_1 i (by omega)) ?_
          refine g_iadd C dX0_passOne_53 ?_
          refine g_call0i C (rd_SN C (host := "HiredClaque") (k_X4_heldPride l D q tt ((sP S i) + (heS S N i)) ) gX0_passOne_X4_heldPride_n93 rfl rfl rfl 1 ok_X4_heldPride w_6 w_7 w_8 (rest := [.int (nI i), .ref (a 3)]) rfl rfl (Nat.le_of_ble_eq_true rfl) dX0_passOne_54 ⟨(Nat.le_of_ble_eq_true rfl), (Nat.le_of_ble_eq_true rfl)⟩ ⟨(Nat.le_of_ble_eq_true rfl), (Nat.le_of_ble_eq_true rfl)⟩) (fun _ => rfl) (fun r_54 _ h_54 => ?_)
          obtain rfl := h_54
          refine g_iast C 3 (i) (f := pr) rfl rfl (by omega) (by decide) dX0_passOne_57 (hw q a ((hL h), (hK h), (upd pr i (wiS ((sP S i) + (heS S N i)))), (hE h), (hR h), (hN h), (hC h), (hM h), (hZ h), u_1.1, u_1.2)) rfl ?_
          refine g_iinc C (nI (i + 1)) [(2, .int (nI (i + 1))), (0, .ref (a 0)), (1, .int (nI (clN (goS S N) (i + 1))))] dX0_passOne_58 2 rfl (nI_add i 1) (by decide) rfl ?_
          refine g_goto C 8 dX0_passOne_61 rfl ?_
          refine g_sub [1, 2, 0] (lv' := [(0, .ref (a 0)), (1, .int (nI (clN (goS S N) (i + 1)))), (2, .int (nI (i + 1)))]) rfl ?_
          exact ih ((i + 1)) ((upd pr i (wiS ((sP S i) + (heS S N i))))) (by omega) (by first | assumption | omega) (fun k hk => by
              by_cases e : k = i
              · subst e; rw [pk_us, if_pos (by omega), goS_P hk]
              · rw [pk_un e, hp k hk]
                by_cases h1 : k < i
                · rw [if_pos h1, if_pos (by omega)]
                · rw [if_neg h1, if_neg (by omega)])
        · refine g_iloadn C dX0_passOne_30 1 rfl rfl ?_
          refine g_iconst C 1 dX0_passOne_31 (by decide) ?_
          refine g_iloadn C dX0_passOne_32 2 rfl rfl ?_
          refine g_ishl C dX0_passOne_33 ?_
          refine g_ior C dX0_passOne_34 ?_
          refine g_topci (nI (clN (goS S N) (i + 1))) (cl_or hG.go (by omega) (by rw [goS_C (by omega)]; exact bI_t (Int32.not_lt.mp c_27))) ?_
          refine g_istoren C [(1, .int (nI (clN (goS S N) (i + 1)))), (0, .ref (a 0)), (2, .int (nI i))] dX0_passOne_35 rfl (by decide) rfl ?_
          refine g_aloadn C dX0_passOne_36 1 rfl rfl ?_
          refine g_get C fx0 w_0 0 2 (v := .ref (a 3)) rfl (by decide) w_5 rfl dX0_passOne_37 ?_
          refine g_iloadn C dX0_passOne_40 2 rfl rfl ?_
          refine g_aloadn C dX0_passOne_41 1 rfl rfl ?_
          refine g_get C fx0 w_0 0 2 (v := .ref (a 3)) rfl (by decide) w_5 rfl dX0_passOne_42 ?_
          refine g_iloadn C dX0_passOne_45 2 rfl rfl ?_
          refine g_iald C 3 (i) (f := pr) rfl rfl (by omega) (by decide) dX0_passOne_46 ?_
          refine g_topci (sP S i) (by rw [hp i (by omega), if_neg (by omega)]) ?_
          refine g_aloadn C dX0_passOne_47 1 rfl rfl ?_
          refine g_get C fx0 w_0 0 10 (v := .ref (a 7)) rfl (by decide) w_4 rfl dX0_passOne_48 ?_
          refine g_iloadn C dX0_passOne_51 2 rfl rfl ?_
          refine g_iald C 7 (i) (f := u_1.2) rfl rfl (by omega) (by decide) dX0_passOne_52 ?_
          refine g_topci (heS S N i) (hh_1 i (by omega)) ?_
          refine g_iadd C dX0_passOne_53 ?_
          refine g_call0i C (rd_SN C (host := "HiredClaque") (k_X4_heldPride l D q tt ((sP S i) + (heS S N i)) ) gX0_passOne_X4_heldPride_n93 rfl rfl rfl 1 ok_X4_heldPride w_6 w_7 w_8 (rest := [.int (nI i), .ref (a 3)]) rfl rfl (Nat.le_of_ble_eq_true rfl) dX0_passOne_54 ⟨(Nat.le_of_ble_eq_true rfl), (Nat.le_of_ble_eq_true rfl)⟩ ⟨(Nat.le_of_ble_eq_true rfl), (Nat.le_of_ble_eq_true rfl)⟩) (fun _ => rfl) (fun r_54 _ h_54 => ?_)
          obtain rfl := h_54
          refine g_iast C 3 (i) (f := pr) rfl rfl (by omega) (by decide) dX0_passOne_57 (hw q a ((hL h), (hK h), (upd pr i (wiS ((sP S i) + (heS S N i)))), (hE h), (hR h), (hN h), (hC h), (hM h), (hZ h), u_1.1, u_1.2)) rfl ?_
          refine g_iinc C (nI (i + 1)) [(2, .int (nI (i + 1))), (1, .int (nI (clN (goS S N) (i + 1)))), (0, .ref (a 0))] dX0_passOne_58 2 rfl (nI_add i 1) (by decide) rfl ?_
          refine g_goto C 8 dX0_passOne_61 rfl ?_
          refine g_sub [2, 1, 0] (lv' := [(0, .ref (a 0)), (1, .int (nI (clN (goS S N) (i + 1)))), (2, .int (nI (i + 1)))]) rfl ?_
          exact ih ((i + 1)) ((upd pr i (wiS ((sP S i) + (heS S N i))))) (by omega) (by first | assumption | omega) (fun k hk => by
              by_cases e : k = i
              · subst e; rw [pk_us, if_pos (by omega), goS_P hk]
              · rw [pk_un e, hp k hk]
                by_cases h1 : k < i
                · rw [if_pos h1, if_pos (by omega)]
                · rw [if_neg h1, if_neg (by omega)])
  refine g_sub [2, 1, 0] (lv' := [(0, .ref (a 0)), (1, .int 0), (2, .int 0)]) rfl ?_
  exact J_8 _ (0) ((hP h)) (Nat.lt_succ_self _) (by first | assumption | omega) (fun k hk => by rw [if_neg (by omega)]; exact rS.P hk)

