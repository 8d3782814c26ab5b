set_option maxRecDepth 100000 in
set_option maxHeartbeats 4000000 in
theorem k_X4_isUnder (l : Launch) (D : va_G) (q : Nat → ClassId) (tt : Nat → Nat) (kd : Nat) (y : Int32) (hk : kd ≤ 5) : MI l D q tt yX4_isUnder wsX4_isUnder ({ frames := 2, cells := 0, slots := 0, locals := 42 } : Room) [.int (nI kd), .int y] [] (fun (r : Int32) (u : Unit) => r = (bI (unS (nI kd) y))) (fun (_ : Unit) => []) 0 0 := by
  refine MI.of RX4 [(0, .int (nI kd)), (1, .int y)] (by decide) rfl rfl (Nat.le_of_ble_eq_true rfl) rfl ?_
  intro p e s m args below meth c A C hr hnm
  have w_0 : Cond.fieldLink RX4 265 RX4 "KIND_ABOVE" "[I" ∈ wsX4_isUnder := by decide +kernel
  refine g_iloadn C dX4_isUnder_0 0 rfl rfl ?_
  refine g_istoren C [(2, .int (nI kd)), (0, .int (nI kd)), (1, .int y)] dX4_isUnder_1 rfl (by decide) rfl ?_
  refine g_iconst C 0 dX4_isUnder_2 (by decide) ?_
  refine g_lvc 0 (lv' := [(2, .int (unK kd)), (0, .int (nI kd)), (1, .int y)]) (by rw [(un_st kd (by omega)).2.2.2]) ?_
  refine g_istoren C [(3, .int 0), (2, .int (unK kd)), (0, .int (nI kd)), (1, .int y)] dX4_isUnder_3 rfl (by decide) rfl ?_
  have J_4 : ∀ (fu : Nat) (k : Nat) (i : Nat), 6 - i < fu → (k ≤ 6) → (i + unL k ≤ 3) → (unS (nI kd) y ↔ unD k y) → G p l e ({ frames := 2, cells := 0, slots := 0, locals := 42 } : Room) s m args below meth c 4 D A (MQ below (va_Qi (fun (r : Int32) (u : Unit) => r = (bI (unS (nI kd) y))) (Bw D A (fun (_ : Unit) => [])) A) args s 0 0 A) 4 [(0, .int (nI kd)), (1, .int y), (2, .int (unK k)), (3, .int (nI i))] [] [] 0 0 := by
    intro fu
    induction fu with
    | zero =>
      intro k i hfu
      exact absurd hfu (Nat.not_lt_zero _)
    | succ fu ih =>
      intro k i hfu hk6 hi hu
      refine g_iloadn C dX4_isUnder_4 3 rfl rfl ?_
      refine g_iconst C 5 dX4_isUnder_5 (by decide) ?_
      refine g_icmpN_gt C 35 (i) (5) dX4_isUnder_6 rfl (by omega) (by omega) (fun c_6 => ?_) (fun c_6 => ?_)
      · refine g_iconst C 0 dX4_isUnder_35 (by decide) ?_
        exact g_zret C () hr rfl dX4_isUnder_36 (Nat.le_of_ble_eq_true rfl) (Nat.le_of_ble_eq_true rfl) rfl (by first | (exfalso; omega) | (refine (bI_n (fun h => ?_)).symm; have h6_ : k = 6 := (by have h7_ : ¬ k < 6 := (fun z => c_13 ((un_kd k (by omega)).mpr z)); omega); subst h6_; exact hu.mp h))
      · refine g_iloadn C dX4_isUnder_9 2 rfl rfl ?_
        refine g_call0i C (rd_S C (k_X4_isKind l D q tt (unK k) ) gX4_isUnder_X4_isKind rfl rfl rfl 1 ok_X4_isKind (rest := []) rfl rfl (Nat.le_of_ble_eq_true rfl) dX4_isUnder_10 ⟨(Nat.le_of_ble_eq_true rfl), (Nat.le_of_ble_eq_true rfl)⟩ ⟨(Nat.le_of_ble_eq_true rfl), (Nat.le_of_ble_eq_true rfl)⟩) (fun _ => rfl) (fun r_10 _ h_10 => ?_)
        obtain rfl := h_10
        refine g_ifeqE C 35 dX4_isUnder_13 rfl rfl (fun c_13 => ?_) (fun c_13 => ?_)
        · refine g_iconst C 0 dX4_isUnder_35 (by decide) ?_
          exact g_zret C () hr rfl dX4_isUnder_36 (Nat.le_of_ble_eq_true rfl) (Nat.le_of_ble_eq_true rfl) rfl (by first | (exfalso; omega) | (refine (bI_n (fun h => ?_)).symm; have h6_ : k = 6 := (by have h7_ : ¬ k < 6 := (fun z => c_13 ((un_kd k (by omega)).mpr z)); omega); subst h6_; exact hu.mp h))
        · have hk6_ : k < 6 := (un_kd k (by omega)).mp c_13
          refine g_iloadn C dX4_isUnder_16 2 rfl rfl ?_
          refine g_iloadn C dX4_isUnder_17 1 rfl rfl ?_
          refine g_icmp_ne C 23 dX4_isUnder_18 rfl (fun c_18 => ?_) (fun c_18 => ?_)
          · refine g_gets C C.2.2.2.2.2.2.1.2.2.2.2.2.1 w_0 dX4_isUnder_23 ?_
            refine g_iloadn C dX4_isUnder_26 2 rfl rfl ?_
            refine g_topci (nI k) ((un_st k hk6_).2.2.2) ?_
            refine g_ti C (k) C.2.2.2.2.2.2.1.2.2.2.2.2.1 rfl (by omega) (by decide) dX4_isUnder_27 ?_
            refine g_topci (unK (unU k)) ((un_st k hk6_).2.2.1) ?_
            refine g_istoren C [(2, .int (unK (unU k))), (0, .int (nI kd)), (1, .int y), (3, .int (nI i))] dX4_isUnder_28 rfl (by decide) rfl ?_
            refine g_iinc C (nI (i + 1)) [(3, .int (nI (i + 1))), (2, .int (unK (unU k))), (0, .int (nI kd)), (1, .int y)] dX4_isUnder_29 3 rfl (nI_add i 1) (by decide) rfl ?_
            refine g_goto C 4 dX4_isUnder_32 rfl ?_
            refine g_sub [2, 3, 1, 0] (lv' := [(0, .int (nI kd)), (1, .int y), (2, .int (unK (unU k))), (3, .int (nI (i + 1)))]) rfl ?_
            exact ih ((unU k)) ((i + 1)) (by omega) (un_st k hk6_).1 (by have := (un_st k hk6_).2.1; omega) (hu.trans ⟨fun h => ((un_D hk6_).mp h).resolve_left (fun z => c_18 (by rw [(un_st k hk6_).2.2.2]; exact z.symm)), fun h => (un_D hk6_).mpr (Or.inr h)⟩)
          · refine g_iconst C 1 dX4_isUnder_21 (by decide) ?_
            exact g_zret C () hr rfl dX4_isUnder_22 (Nat.le_of_ble_eq_true rfl) (Nat.le_of_ble_eq_true rfl) rfl ((bI_t (hu.mpr ((un_D hk6_).mpr (Or.inl (by rw [← (un_st k hk6_).2.2.2]; exact c_18.symm))))).symm)
  refine g_sub [2, 3, 1, 0] (lv' := [(0, .int (nI kd)), (1, .int y), (2, .int (unK kd)), (3, .int 0)]) rfl ?_
  exact J_4 _ (kd) (0) (Nat.lt_succ_self _) (by first | assumption | omega) (by have := un_le kd (by omega); omega) (un_S (by omega))

