set_option maxRecDepth 100000 in
set_option maxHeartbeats 4000000 in
theorem k_takeSemiN (l : Launch) (D : va_G) (q : Nat → ClassId) (tt : Nat → Nat) (a : Nat → Nat) (t : TC) (U : Nat → Int32) (n : Nat) (f : Nat) (hn : tL t = nI n) (hn2 : n ≤ 200) (hU : TPR (tB t) U n) (hf : f ≤ n) (hb : ¬ (kdT U n f = 3 ∧ U f = 59)) : MI l D q tt yX3_takeSemicolon wsX3_takeSemicolon ({ frames := 0, cells := 0, slots := 0, locals := 0 } : Room) [.ref (a 0)] (tw q a ((tL t), (tB t), (nI (kdT U n f)), (nI f), (nI (EN U n f)))) (fun (r : Int32) (u : Unit) => r = 0) (fun (_ : Unit) => (tw q a ((tL t), (tB t), (nI (kdT U n f)), (nI f), (nI (EN U n f))))) 0 0 := by
  refine MI.of RX3 [(0, .ref (a 0))] (by decide) rfl rfl (Nat.le_of_ble_eq_true rfl) rfl ?_
  intro p e s m args below meth c A C hr hnm
  have w_0 : ∀ w ∈ u_ws RX3 TX3 5, w ∈ wsX3_takeSemicolon := by decide +kernel
  have w_1 : Cond.fieldLink RX3 19 (TX3 2).1 (TX3 2).2.1 (TX3 2).2.2.1 ∈ wsX3_takeSemicolon := by decide +kernel
  have w_2 : Cond.fieldLink RX3 15 (TX3 1).1 (TX3 1).2.1 (TX3 1).2.2.1 ∈ wsX3_takeSemicolon := by decide +kernel
  have w_3 : Cond.fieldLink RX3 22 (TX3 3).1 (TX3 3).2.1 (TX3 3).2.2.1 ∈ wsX3_takeSemicolon := by decide +kernel
  have hen := en_le (u := U) hf
  refine g_aloadn C dX3_takeSemicolon_0 0 rfl rfl ?_
  refine g_get C fx3 w_0 0 2 (v := .int (nI (kdT U n f))) rfl (by decide) w_1 rfl dX3_takeSemicolon_1 ?_
  refine g_iconst C 3 dX3_takeSemicolon_4 (by decide) ?_
  refine g_icmpN_ne C 22 ((kdT U n f)) (3) dX3_takeSemicolon_5 rfl (kd_b _ _ _) (by omega) (fun c_5 => ?_) (fun c_5 => ?_)
  · refine g_iconst C 0 dX3_takeSemicolon_22 (by decide) ?_
    exact g_zret C () hr rfl dX3_takeSemicolon_23 (Nat.le_of_ble_eq_true rfl) (Nat.le_of_ble_eq_true rfl) rfl (rfl)
  · have hfn : f < n := kd_lt (by rw [c_5]; decide)
    refine g_aloadn C dX3_takeSemicolon_8 0 rfl rfl ?_
    refine g_get C fx3 w_0 0 1 (v := .ref (a 1)) rfl (by decide) w_2 rfl dX3_takeSemicolon_9 ?_
    refine g_aloadn C dX3_takeSemicolon_12 0 rfl rfl ?_
    refine g_get C fx3 w_0 0 3 (v := .int (nI f)) rfl (by decide) w_3 rfl dX3_takeSemicolon_13 ?_
    refine g_bald C 1 (f) (f := (tB t)) rfl rfl (by omega) (by decide) dX3_takeSemicolon_16 ?_
    refine g_bipush C 59 dX3_takeSemicolon_17 (by decide) ?_
    refine g_icmp_eq C 24 dX3_takeSemicolon_19 rfl (fun c_19 => ?_) (fun c_19 => ?_)
    · exfalso
      exact hb ⟨c_5, (tp_59 hU hfn).mp c_19⟩
    · refine g_iconst C 0 dX3_takeSemicolon_22 (by decide) ?_
      exact g_zret C () hr rfl dX3_takeSemicolon_23 (Nat.le_of_ble_eq_true rfl) (Nat.le_of_ble_eq_true rfl) rfl (rfl)

set_option maxRecDepth 100000 in
set_option maxHeartbeats 4000000 in
theorem k_X3_nameOfKind (l : Launch) (D : va_G) (q : Nat → ClassId) (tt : Nat → Nat) (k : Nat) (hk : k ≤ 5) : MR l D q tt yX3_nameOfKind wsX3_nameOfKind ({ frames := 0, cells := 0, slots := 0, locals := 0 } : Room) [.int (nI k)] [] (fun (u : Nat) => u = tt (10 + k)) 0 0 := by
  refine MR.of RX3 [(0, .int (nI k))] (by decide) rfl rfl (Nat.le_of_ble_eq_true rfl) rfl ?_
  intro p e s m args below meth c A C hr hnm
  refine g_iloadn C dX3_nameOfKind_0 0 rfl rfl ?_
  by_cases s_1_1 : (nI k) = 1
  · refine g_tin C 36 dX3_nameOfKind_1 (by rw [s_1_1]; decide) (by rw [s_1_1]; decide) (by rw [s_1_1]; rfl) rfl ?_
    refine g_ldcS C rfl 1 dX3_nameOfKind_36 rfl ?_
    exact g_aret C hr dX3_nameOfKind_38 (Nat.le_of_ble_eq_true rfl) (Nat.le_of_ble_eq_true rfl) (by
        have e_ : k = 1 := (nI_eq (by omega) (by omega)).mp s_1_1
        rw [e_])
  by_cases s_1_2 : (nI k) = 2
  · refine g_tin C 39 dX3_nameOfKind_1 (by rw [s_1_2]; decide) (by rw [s_1_2]; decide) (by rw [s_1_2]; rfl) rfl ?_
    refine g_ldcS C rfl 2 dX3_nameOfKind_39 rfl ?_
    exact g_aret C hr dX3_nameOfKind_41 (Nat.le_of_ble_eq_true rfl) (Nat.le_of_ble_eq_true rfl) (by
        have e_ : k = 2 := (nI_eq (by omega) (by omega)).mp s_1_2
        rw [e_])
  by_cases s_1_3 : (nI k) = 3
  · refine g_tin C 42 dX3_nameOfKind_1 (by rw [s_1_3]; decide) (by rw [s_1_3]; decide) (by rw [s_1_3]; rfl) rfl ?_
    refine g_ldcS C rfl 3 dX3_nameOfKind_42 rfl ?_
    exact g_aret C hr dX3_nameOfKind_44 (Nat.le_of_ble_eq_true rfl) (Nat.le_of_ble_eq_true rfl) (by
        have e_ : k = 3 := (nI_eq (by omega) (by omega)).mp s_1_3
        rw [e_])
  by_cases s_1_4 : (nI k) = 4
  · refine g_tin C 45 dX3_nameOfKind_1 (by rw [s_1_4]; decide) (by rw [s_1_4]; decide) (by rw [s_1_4]; rfl) rfl ?_
    refine g_ldcS C rfl 4 dX3_nameOfKind_45 rfl ?_
    exact g_aret C hr dX3_nameOfKind_47 (Nat.le_of_ble_eq_true rfl) (Nat.le_of_ble_eq_true rfl) (by
        have e_ : k = 4 := (nI_eq (by omega) (by omega)).mp s_1_4
        rw [e_])
  by_cases s_1_5 : (nI k) = 5
  · refine g_tin C 48 dX3_nameOfKind_1 (by rw [s_1_5]; decide) (by rw [s_1_5]; decide) (by rw [s_1_5]; rfl) rfl ?_
    refine g_ldcS C rfl 5 dX3_nameOfKind_48 rfl ?_
    exact g_aret C hr dX3_nameOfKind_50 (Nat.le_of_ble_eq_true rfl) (Nat.le_of_ble_eq_true rfl) (by
        have e_ : k = 5 := (nI_eq (by omega) (by omega)).mp s_1_5
        rw [e_])
  have ns_1_1 := lv_neT s_1_1 (a := 1) (by decide)
  have ns_1_2 := lv_neT s_1_2 (a := 2) (by decide)
  have ns_1_3 := lv_neT s_1_3 (a := 3) (by decide)
  have ns_1_4 := lv_neT s_1_4 (a := 4) (by decide)
  have ns_1_5 := lv_neT s_1_5 (a := 5) (by decide)
  refine g_tout C 51 dX3_nameOfKind_1 (by omega) rfl ?_
  refine g_ldcS C rfl 0 dX3_nameOfKind_51 rfl ?_
  exact g_aret C hr dX3_nameOfKind_53 (Nat.le_of_ble_eq_true rfl) (Nat.le_of_ble_eq_true rfl) (by
      have h1_ : ¬ k = 1 := fun z => s_1_1 (by rw [z]; rfl)
      have h2_ : ¬ k = 2 := fun z => s_1_2 (by rw [z]; rfl)
      have h3_ : ¬ k = 3 := fun z => s_1_3 (by rw [z]; rfl)
      have h4_ : ¬ k = 4 := fun z => s_1_4 (by rw [z]; rfl)
      have h5_ : ¬ k = 5 := fun z => s_1_5 (by rw [z]; rfl)
      have e_ : k = 0 := by omega
      rw [e_])

set_option maxRecDepth 100000 in
set_option maxHeartbeats 4000000 in
theorem k_X3_nameOfLaw (l : Launch) (D : va_G) (q : Nat → ClassId) (tt : Nat → Nat) (k : Nat) (hk : k ≤ 3) : MR l D q tt yX3_nameOfLaw wsX3_nameOfLaw ({ frames := 0, cells := 0, slots := 0, locals := 0 } : Room) [.int (nI k)] [] (fun (u : Nat) => u = tt (10 + (6 + k))) 0 0 := by
  refine MR.of RX3 [(0, .int (nI k))] (by decide) rfl rfl (Nat.le_of_ble_eq_true rfl) rfl ?_
  intro p e s m args below meth c A C hr hnm
  refine g_iloadn C dX3_nameOfLaw_0 0 rfl rfl ?_
  by_cases s_1_1 : (nI k) = 1
  · refine g_tin C 28 dX3_nameOfLaw_1 (by rw [s_1_1]; decide) (by rw [s_1_1]; decide) (by rw [s_1_1]; rfl) rfl ?_
    refine g_ldcS C rfl 7 dX3_nameOfLaw_28 rfl ?_
    exact g_aret C hr dX3_nameOfLaw_30 (Nat.le_of_ble_eq_true rfl) (Nat.le_of_ble_eq_true rfl) (by
        have e_ : k = 1 := (nI_eq (by omega) (by omega)).mp s_1_1
        rw [e_])
  by_cases s_1_2 : (nI k) = 2
  · refine g_tin C 31 dX3_nameOfLaw_1 (by rw [s_1_2]; decide) (by rw [s_1_2]; decide) (by rw [s_1_2]; rfl) rfl ?_
    refine g_ldcS C rfl 8 dX3_nameOfLaw_31 rfl ?_
    exact g_aret C hr dX3_nameOfLaw_33 (Nat.le_of_ble_eq_true rfl) (Nat.le_of_ble_eq_true rfl) (by
        have e_ : k = 2 := (nI_eq (by omega) (by omega)).mp s_1_2
        rw [e_])
  by_cases s_1_3 : (nI k) = 3
  · refine g_tin C 34 dX3_nameOfLaw_1 (by rw [s_1_3]; decide) (by rw [s_1_3]; decide) (by rw [s_1_3]; rfl) rfl ?_
    refine g_ldcS C rfl 9 dX3_nameOfLaw_34 rfl ?_
    exact g_aret C hr dX3_nameOfLaw_36 (Nat.le_of_ble_eq_true rfl) (Nat.le_of_ble_eq_true rfl) (by
        have e_ : k = 3 := (nI_eq (by omega) (by omega)).mp s_1_3
        rw [e_])
  have ns_1_1 := lv_neT s_1_1 (a := 1) (by decide)
  have ns_1_2 := lv_neT s_1_2 (a := 2) (by decide)
  have ns_1_3 := lv_neT s_1_3 (a := 3) (by decide)
  refine g_tout C 37 dX3_nameOfLaw_1 (by omega) rfl ?_
  refine g_ldcS C rfl 6 dX3_nameOfLaw_37 rfl ?_
  exact g_aret C hr dX3_nameOfLaw_39 (Nat.le_of_ble_eq_true rfl) (Nat.le_of_ble_eq_true rfl) (by
      have h1_ : ¬ k = 1 := fun z => s_1_1 (by rw [z]; rfl)
      have h2_ : ¬ k = 2 := fun z => s_1_2 (by rw [z]; rfl)
      have h3_ : ¬ k = 3 := fun z => s_1_3 (by rw [z]; rfl)
      have e_ : k = 0 := by omega
      rw [e_])

set_option maxRecDepth 100000 in
set_option maxHeartbeats 4000000 in
theorem k_X3_kindNamed (l : Launch) (D : va_G) (q : Nat → ClassId) (tt : Nat → Nat) (a : Nat → Nat) (t : TC) (U : Nat → Int32) (n : Nat) (f : Nat) (hn : tL t = nI n) (hn2 : n ≤ 200) (hU : TPR (tB t) U n) (hf : f ≤ n) : MI l D q tt yX3_kindNamed wsX3_kindNamed ({ frames := 5, cells := 0, slots := 0, locals := 107 } : Room) [.ref (a 0)] (tw q a ((tL t), (tB t), (nI (kdT U n f)), (nI f), (nI (EN U n f)))) (fun (r : Int32) (u : Unit) => r = (kiT U n f)) (fun (_ : Unit) => (tw q a ((tL t), (tB t), (nI (kdT U n f)), (nI f), (nI (EN U n f))))) 0 0 := by
  refine MI.of RX3 [(0, .ref (a 0))] (by decide) rfl rfl (Nat.le_of_ble_eq_true rfl) rfl ?_
  intro p e s m args below meth c A C hr hnm
  refine g_iconst C 0 dX3_kindNamed_0 (by decide) ?_
  refine g_istoren C [(1, .int 0), (0, .ref (a 0))] dX3_kindNamed_1 rfl (by decide) rfl ?_
  have J_2 : ∀ (fu : Nat) (i : Nat), 6 - i < fu → (i ≤ 6) → (∀ j, j < i → ¬ nmI U n f j) → G p l e ({ frames := 5, cells := 0, slots := 0, locals := 107 } : Room) s m args below meth c 2 D A (MQ below (va_Qi (fun (r : Int32) (u : Unit) => r = (kiT U n f)) (Bw D A (fun (_ : Unit) => (tw q a ((tL t), (tB t), (nI (kdT U n f)), (nI f), (nI (EN U n f)))))) A) args s 0 0 A) 2 [(0, .ref (a 0)), (1, .int (nI i))] [] (tw q a ((tL t), (tB t), (nI (kdT U n f)), (nI f), (nI (EN U n f)))) 0 0 := by
    intro fu
    induction fu with
    | zero =>
      intro i hfu
      exact absurd hfu (Nat.not_lt_zero _)
    | succ fu ih =>
      intro i hfu hi hno
      refine g_iloadn C dX3_kindNamed_2 1 rfl rfl ?_
      refine g_iconst C 5 dX3_kindNamed_3 (by decide) ?_
      refine g_icmpN_gt C 26 (i) (5) dX3_kindNamed_4 rfl (by omega) (by omega) (fun c_4 => ?_) (fun c_4 => ?_)
      · refine g_iconst C (-1) dX3_kindNamed_26 (by decide) ?_
        exact g_iret C () hr dX3_kindNamed_27 (Nat.le_of_ble_eq_true rfl) (Nat.le_of_ble_eq_true rfl) rfl (by have e_ := ki_no (fun j hj => hno j (by omega)); unfold kiT; rw [e_]; rfl)
      · refine g_aloadn C dX3_kindNamed_7 0 rfl rfl ?_
        refine g_iloadn C dX3_kindNamed_8 1 rfl rfl ?_
        refine g_callR (w1 := []) (w2 := []) C (rd_S C (k_X3_nameOfKind l D q tt i (by omega)) gX3_kindNamed_X3_nameOfKind rfl rfl rfl 1 ok_X3_nameOfKind (rest := [.ref (a 0)]) rfl rfl (Nat.le_of_ble_eq_true rfl) dX3_kindNamed_9 ⟨(Nat.le_of_ble_eq_true rfl), (Nat.le_of_ble_eq_true rfl)⟩ ⟨(Nat.le_of_ble_eq_true rfl), (Nat.le_of_ble_eq_true rfl)⟩) (fun u_9 h_9 => ?_)
        subst h_9
        refine g_callAi C (rd_V C (k_X3_isNamed l D q tt a t U n f i (by first | assumption | omega) (by first | assumption | omega) (by first | assumption | omega) (by first | assumption | omega) (by omega)) gX3_kindNamed_X3_isNamed rfl rfl rfl 1 ok_X3_isNamed rfl 0 rfl rfl (rest := []) rfl rfl (Nat.le_of_ble_eq_true rfl) dX3_kindNamed_12 ⟨(Nat.le_of_ble_eq_true rfl), (Nat.le_of_ble_eq_true rfl)⟩ ⟨(Nat.le_of_ble_eq_true rfl), (Nat.le_of_ble_eq_true rfl)⟩) (fun r_12 _ h_12 => ?_)
        obtain rfl := h_12
        refine g_ifeqE C 20 dX3_kindNamed_15 rfl rfl (fun c_15 => ?_) (fun c_15 => ?_)
        · refine g_iinc C (nI (i + 1)) [(1, .int (nI (i + 1))), (0, .ref (a 0))] dX3_kindNamed_20 1 rfl (nI_add i 1) (by decide) rfl ?_
          refine g_goto C 2 dX3_kindNamed_23 rfl ?_
          refine g_sub [1, 0] (lv' := [(0, .ref (a 0)), (1, .int (nI (i + 1)))]) rfl ?_
          exact ih ((i + 1)) (by omega) (by first | assumption | omega) (fun j hj => by
              by_cases e_ : j = i
              · subst e_; exact c_15
              · exact hno j (by omega))
        · refine g_iloadn C dX3_kindNamed_18 1 rfl rfl ?_
          exact g_iret C () hr dX3_kindNamed_19 (Nat.le_of_ble_eq_true rfl) (Nat.le_of_ble_eq_true rfl) rfl (by have e_ := ki_of (by omega) hno c_15; unfold kiT; rw [e_, if_neg (by omega)])
  refine g_sub [1, 0] (lv' := [(0, .ref (a 0)), (1, .int 0)]) rfl ?_
  exact J_2 _ (0) (Nat.lt_succ_self _) (by first | assumption | omega) (fun j h => absurd h (Nat.not_lt_zero j))

set_option maxRecDepth 100000 in
set_option maxHeartbeats 4000000 in
theorem k_X3_lawNamed (l : Launch) (D : va_G) (q : Nat → ClassId) (tt : Nat → Nat) (a : Nat → Nat) (t : TC) (U : Nat → Int32) (n : Nat) (f : Nat) (hn : tL t = nI n) (hn2 : n ≤ 200) (hU : TPR (tB t) U n) (hf : f ≤ n) : MI l D q tt yX3_lawNamed wsX3_lawNamed ({ frames := 5, cells := 0, slots := 0, locals := 107 } : Room) [.ref (a 0)] (tw q a ((tL t), (tB t), (nI (kdT U n f)), (nI f), (nI (EN U n f)))) (fun (r : Int32) (u : Unit) => r = (lcT U n f)) (fun (_ : Unit) => (tw q a ((tL t), (tB t), (nI (kdT U n f)), (nI f), (nI (EN U n f))))) 0 0 := by
  refine MI.of RX3 [(0, .ref (a 0))] (by decide) rfl rfl (Nat.le_of_ble_eq_true rfl) rfl ?_
  intro p e s m args below meth c A C hr hnm
  refine g_iconst C 0 dX3_lawNamed_0 (by decide) ?_
  refine g_istoren C [(1, .int 0), (0, .ref (a 0))] dX3_lawNamed_1 rfl (by decide) rfl ?_
  have J_2 : ∀ (fu : Nat) (i : Nat), 4 - i < fu → (i ≤ 4) → (∀ j, j < i → ¬ nmI U n f (6 + j)) → G p l e ({ frames := 5, cells := 0, slots := 0, locals := 107 } : Room) s m args below meth c 2 D A (MQ below (va_Qi (fun (r : Int32) (u : Unit) => r = (lcT U n f)) (Bw D A (fun (_ : Unit) => (tw q a ((tL t), (tB t), (nI (kdT U n f)), (nI f), (nI (EN U n f)))))) A) args s 0 0 A) 2 [(0, .ref (a 0)), (1, .int (nI i))] [] (tw q a ((tL t), (tB t), (nI (kdT U n f)), (nI f), (nI (EN U n f)))) 0 0 := by
    intro fu
    induction fu with
    | zero =>
      intro i hfu
      exact absurd hfu (Nat.not_lt_zero _)
    | succ fu ih =>
      intro i hfu hi hno
      refine g_iloadn C dX3_lawNamed_2 1 rfl rfl ?_
      refine g_iconst C 4 dX3_lawNamed_3 (by decide) ?_
      refine g_icmpN_ge C 26 (i) (4) dX3_lawNamed_4 rfl (by omega) (by omega) (fun c_4 => ?_) (fun c_4 => ?_)
      · refine g_iconst C (-1) dX3_lawNamed_26 (by decide) ?_
        exact g_iret C () hr dX3_lawNamed_27 (Nat.le_of_ble_eq_true rfl) (Nat.le_of_ble_eq_true rfl) rfl (by have e_ := lw_no (fun j hj => hno j (by omega)); unfold lcT; rw [e_]; rfl)
      · refine g_aloadn C dX3_lawNamed_7 0 rfl rfl ?_
        refine g_iloadn C dX3_lawNamed_8 1 rfl rfl ?_
        refine g_callR (w1 := []) (w2 := []) C (rd_S C (k_X3_nameOfLaw l D q tt i (by omega)) gX3_lawNamed_X3_nameOfLaw rfl rfl rfl 1 ok_X3_nameOfLaw (rest := [.ref (a 0)]) rfl rfl (Nat.le_of_ble_eq_true rfl) dX3_lawNamed_9 ⟨(Nat.le_of_ble_eq_true rfl), (Nat.le_of_ble_eq_true rfl)⟩ ⟨(Nat.le_of_ble_eq_true rfl), (Nat.le_of_ble_eq_true rfl)⟩) (fun u_9 h_9 => ?_)
        subst h_9
        refine g_callAi C (rd_V C (k_X3_isNamed l D q tt a t U n f (6 + i) (by first | assumption | omega) (by first | assumption | omega) (by first | assumption | omega) (by first | assumption | omega) (by omega)) gX3_lawNamed_X3_isNamed rfl rfl rfl 1 ok_X3_isNamed rfl 0 rfl rfl (rest := []) rfl rfl (Nat.le_of_ble_eq_true rfl) dX3_lawNamed_12 ⟨(Nat.le_of_ble_eq_true rfl), (Nat.le_of_ble_eq_true rfl)⟩ ⟨(Nat.le_of_ble_eq_true rfl), (Nat.le_of_ble_eq_true rfl)⟩) (fun r_12 _ h_12 => ?_)
        obtain rfl := h_12
        refine g_ifeqE C 20 dX3_lawNamed_15 rfl rfl (fun c_15 => ?_) (fun c_15 => ?_)
        · refine g_iinc C (nI (i + 1)) [(1, .int (nI (i + 1))), (0, .ref (a 0))] dX3_lawNamed_20 1 rfl (nI_add i 1) (by decide) rfl ?_
          refine g_goto C 2 dX3_lawNamed_23 rfl ?_
          refine g_sub [1, 0] (lv' := [(0, .ref (a 0)), (1, .int (nI (i + 1)))]) rfl ?_
          exact ih ((i + 1)) (by omega) (by first | assumption | omega) (fun j hj => by
              by_cases e_ : j = i
              · subst e_; exact c_15
              · exact hno j (by omega))
        · refine g_iloadn C dX3_lawNamed_18 1 rfl rfl ?_
          exact g_iret C () hr dX3_lawNamed_19 (Nat.le_of_ble_eq_true rfl) (Nat.le_of_ble_eq_true rfl) rfl (by have e_ := lw_of (by omega) hno c_15; unfold lcT; rw [e_, if_neg (by omega)])
  refine g_sub [1, 0] (lv' := [(0, .ref (a 0)), (1, .int 0)]) rfl ?_
  exact J_2 _ (0) (Nat.lt_succ_self _) (by first | assumption | omega) (fun j h => absurd h (Nat.not_lt_zero j))

