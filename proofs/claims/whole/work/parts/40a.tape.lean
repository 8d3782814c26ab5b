set_option maxRecDepth 100000 in
set_option maxHeartbeats 4000000 in
theorem k_readLawN (l : Launch) (D : va_G) (q : Nat → ClassId) (tt : Nat → Nat) (a : Nat → Nat) (t : TC) (U : Nat → Int32) (n : Nat) (f : Nat) (b : Nat → Nat) (h : HC) (S : Nat → Int32) (N : Nat) (hn : tL t = nI n) (hn2 : n ≤ 200) (hU : TPR (tB t) U n) (hf : f ≤ n) (hG : Gd S N) (rS : HR S N h) (h4 : lwN U n f = 4) : MI l D q tt yX3_readLaw wsX3_readLaw ({ frames := 6, cells := 0, slots := 0, locals := 128 } : Room) [.ref (a 0), .ref (b 0)] (tw q a ((tL t), (tB t), (nI (kdT U n f)), (nI f), (nI (EN U n f))) ++ (hw q b h)) (fun (r : Int32) (u : Unit) => r = 0) (fun (_ : Unit) => (tw q a ((tL t), (tB t), (nI (kdT U n f)), (nI f), (nI (EN U n f))) ++ (hw q b h))) 0 0 := by
  refine MI.of RX3 [(0, .ref (a 0)), (1, .ref (b 0))] (by decide) rfl rfl (Nat.le_of_ble_eq_true rfl) rfl ?_
  intro p e s m args below meth c A C hr hnm
  have w_0 : Cond.methodLinkNest RX3 78 yX4_isLaw "HiredClaque" ∈ nwL := by decide +kernel
  have w_1 : Cond.static yX4_isLaw ∈ wsX3_readLaw := by decide +kernel
  have w_2 : Cond.initialized yX4_isLaw.cls ∈ wsX3_readLaw := by decide +kernel
  have hen := en_le (u := U) hf
  have hlw := lw_le U n f
  refine g_aloadn C dX3_readLaw_0 0 rfl rfl ?_
  refine g_callWi (w1 := (tw q a ((tL t), (tB t), (nI (kdT U n f)), (nI f), (nI (EN U n f))) ++ (hw q b h))) (wr := ([2, 3, 4, 5, 6, 7, 8, 9] : List Nat).filterMap (fun i => (tw q a ((tL t), (tB t), (nI (kdT U n f)), (nI f), (nI (EN U n f))) ++ (hw q b h))[i]?)) (isC := [0, 1]) (isR := [2, 3, 4, 5, 6, 7, 8, 9]) (pm := [8, 9, 0, 1, 2, 3, 4, 5, 6, 7]) (w1' := (fun _ => (tw q a ((tL t), (tB t), (nI (kdT U n f)), (nI f), (nI (EN U n f))) ++ (hw q b h)))) C (rd_V C (k_X3_lawNamed l D q tt a t U n f (by first | assumption | omega) (by first | assumption | omega) (by first | assumption | omega) (by first | assumption | omega)) gX3_readLaw_X3_lawNamed rfl rfl rfl 0 ok_X3_lawNamed rfl 0 rfl rfl (rest := []) rfl rfl (Nat.le_of_ble_eq_true rfl) dX3_readLaw_1 ⟨(Nat.le_of_ble_eq_true rfl), (Nat.le_of_ble_eq_true rfl)⟩ ⟨(Nat.le_of_ble_eq_true rfl), (Nat.le_of_ble_eq_true rfl)⟩) rfl rfl rfl (fun _ => rfl) rfl (fun r_1 _ h_1 => ?_)
  obtain rfl := h_1
  refine g_topci (-1) (if_pos h4) ?_
  refine g_istoren C [(2, .int (-1)), (0, .ref (a 0)), (1, .ref (b 0))] dX3_readLaw_4 rfl (by decide) rfl ?_
  refine g_iloadn C dX3_readLaw_5 0 rfl rfl ?_
  refine g_call0i C (rd_SN C (host := "HiredClaque") (k_X4_isLaw l D q tt (-1) ) gX3_readLaw_X4_isLaw_n78 rfl rfl rfl 1 ok_X4_isLaw w_0 w_1 w_2 (rest := []) rfl rfl (Nat.le_of_ble_eq_true rfl) dX3_readLaw_6 ⟨(Nat.le_of_ble_eq_true rfl), (Nat.le_of_ble_eq_true rfl)⟩ ⟨(Nat.le_of_ble_eq_true rfl), (Nat.le_of_ble_eq_true rfl)⟩) (fun _ => rfl) (fun r_6 _ h_6 => ?_)
  obtain rfl := h_6
  refine g_topci 0 (bI_n (fun h => absurd h.1 (by decide))) ?_
  refine g_if_neF C 14 dX3_readLaw_9 rfl (by decide) ?_
  refine g_iconst C 0 dX3_readLaw_12 (by decide) ?_
  exact g_zret C () hr rfl dX3_readLaw_13 (Nat.le_of_ble_eq_true rfl) (Nat.le_of_ble_eq_true rfl) rfl (rfl)

set_option maxRecDepth 100000 in
set_option maxHeartbeats 4000000 in
theorem k_readLawB (l : Launch) (D : va_G) (q : Nat → ClassId) (tt : Nat → Nat) (a : Nat → Nat) (t : TC) (U : Nat → Int32) (n : Nat) (f : Nat) (b : Nat → Nat) (h : HC) (S : Nat → Int32) (N : Nat) (hn : tL t = nI n) (hn2 : n ≤ 200) (hU : TPR (tB t) U n) (hf : f ≤ n) (hG : Gd S N) (rS : HR S N h) (h4 : lwN U n f < 4) (hb : ¬ nbP U n (FB U n (EN U n f)) (tLL.getD (lwN U n f) 0) (tLM.getD (lwN U n f) 0)) : MI l D q tt yX3_readLaw wsX3_readLaw ({ frames := 6, cells := 0, slots := 0, locals := 128 } : Room) [.ref (a 0), .ref (b 0)] (tw q a ((tL t), (tB t), (nI (kdT U n f)), (nI f), (nI (EN U n f))) ++ (hw q b h)) (fun (r : Int32) (u : Unit) => r = 0) (fun (_ : Unit) => (tw q a ((tL t), (tB t), (nI (kdT U n (FB U n (EN U n f)))), (nI (FB U n (EN U n f))), (nI (EN U n (FB U n (EN U n f))))) ++ (hw q b h))) 0 0 := by
  refine MI.of RX3 [(0, .ref (a 0)), (1, .ref (b 0))] (by decide) rfl rfl (Nat.le_of_ble_eq_true rfl) rfl ?_
  intro p e s m args below meth c A C hr hnm
  have w_0 : Cond.methodLinkNest RX3 78 yX4_isLaw "HiredClaque" ∈ nwL := by decide +kernel
  have w_1 : Cond.static yX4_isLaw ∈ wsX3_readLaw := by decide +kernel
  have w_2 : Cond.initialized yX4_isLaw.cls ∈ wsX3_readLaw := by decide +kernel
  have w_3 : Cond.fieldLinkNest RX3 82 RX4 "LAW_LEAST" "[I" "HiredClaque" ∈ nwL := by decide +kernel
  have w_4 : Cond.fieldLinkNest RX3 86 RX4 "LAW_MOST" "[I" "HiredClaque" ∈ nwL := by decide +kernel
  have hen := en_le (u := U) hf
  have hlw := lw_le U n f
  refine g_aloadn C dX3_readLaw_0 0 rfl rfl ?_
  refine g_callWi (w1 := (tw q a ((tL t), (tB t), (nI (kdT U n f)), (nI f), (nI (EN U n f))) ++ (hw q b h))) (wr := ([2, 3, 4, 5, 6, 7, 8, 9] : List Nat).filterMap (fun i => (tw q a ((tL t), (tB t), (nI (kdT U n f)), (nI f), (nI (EN U n f))) ++ (hw q b h))[i]?)) (isC := [0, 1]) (isR := [2, 3, 4, 5, 6, 7, 8, 9]) (pm := [8, 9, 0, 1, 2, 3, 4, 5, 6, 7]) (w1' := (fun _ => (tw q a ((tL t), (tB t), (nI (kdT U n f)), (nI f), (nI (EN U n f))) ++ (hw q b h)))) C (rd_V C (k_X3_lawNamed l D q tt a t U n f (by first | assumption | omega) (by first | assumption | omega) (by first | assumption | omega) (by first | assumption | omega)) gX3_readLaw_X3_lawNamed rfl rfl rfl 0 ok_X3_lawNamed rfl 0 rfl rfl (rest := []) rfl rfl (Nat.le_of_ble_eq_true rfl) dX3_readLaw_1 ⟨(Nat.le_of_ble_eq_true rfl), (Nat.le_of_ble_eq_true rfl)⟩ ⟨(Nat.le_of_ble_eq_true rfl), (Nat.le_of_ble_eq_true rfl)⟩) rfl rfl rfl (fun _ => rfl) rfl (fun r_1 _ h_1 => ?_)
  obtain rfl := h_1
  refine g_topci (nI (lwN U n f)) (if_neg (by omega)) ?_
  refine g_istoren C [(2, .int (nI (lwN U n f))), (0, .ref (a 0)), (1, .ref (b 0))] dX3_readLaw_4 rfl (by decide) rfl ?_
  refine g_iloadn C dX3_readLaw_5 0 rfl rfl ?_
  refine g_call0i C (rd_SN C (host := "HiredClaque") (k_X4_isLaw l D q tt (nI (lwN U n f)) ) gX3_readLaw_X4_isLaw_n78 rfl rfl rfl 1 ok_X4_isLaw w_0 w_1 w_2 (rest := []) rfl rfl (Nat.le_of_ble_eq_true rfl) dX3_readLaw_6 ⟨(Nat.le_of_ble_eq_true rfl), (Nat.le_of_ble_eq_true rfl)⟩ ⟨(Nat.le_of_ble_eq_true rfl), (Nat.le_of_ble_eq_true rfl)⟩) (fun _ => rfl) (fun r_6 _ h_6 => ?_)
  obtain rfl := h_6
  refine g_topci 1 (bI_t ⟨nI_pos' (by omega), nI_le (b := 3) (by omega) (by omega)⟩) ?_
  refine g_if_neT C 14 dX3_readLaw_9 rfl (by decide) ?_
  refine g_aloadn C dX3_readLaw_14 1 rfl rfl ?_
  refine g_callWv (w1 := (tw q a ((tL t), (tB t), (nI (kdT U n f)), (nI f), (nI (EN U n f))) ++ (hw q b h))) (wr := ([2, 3, 4, 5, 6, 7, 8, 9] : List Nat).filterMap (fun i => (tw q a ((tL t), (tB t), (nI (kdT U n f)), (nI f), (nI (EN U n f))) ++ (hw q b h))[i]?)) (isC := [0, 1]) (isR := [2, 3, 4, 5, 6, 7, 8, 9]) (pm := [8, 9, 0, 1, 2, 3, 4, 5, 6, 7]) (w1' := (fun _ => (tw q a ((tL t), (tB t), (nI (kdT U n (FB U n (EN U n f)))), (nI (FB U n (EN U n f))), (nI (EN U n (FB U n (EN U n f))))) ++ (hw q b h)))) C (rd_V C (k_X3_next l D q tt a ((tL t), (tB t), (nI (kdT U n f)), (nI f), (tE t)) U n (EN U n f) (by first | assumption | omega) (by first | assumption | omega) (by first | assumption | omega) hen.2) gX3_readLaw_X3_next rfl rfl rfl 0 ok_X3_next rfl 0 rfl rfl (rest := []) rfl rfl (Nat.le_of_ble_eq_true rfl) dX3_readLaw_15 ⟨(Nat.le_of_ble_eq_true rfl), (Nat.le_of_ble_eq_true rfl)⟩ ⟨(Nat.le_of_ble_eq_true rfl), (Nat.le_of_ble_eq_true rfl)⟩) rfl rfl rfl (fun _ => rfl) rfl (fun _ h_15 => ?_)
  refine g_wsc (tw q a ((tL t), (tB t), (nI (kdT U n (FB U n (EN U n f)))), (nI (FB U n (EN U n f))), (nI (EN U n (FB U n (EN U n f))))) ++ (hw q b h)) rfl ?_
  refine g_aloadn C dX3_readLaw_18 1 rfl rfl ?_
  refine g_getsN C (host := "HiredClaque") C.2.2.2.2.2.2.1.2.2.2.1 w_3 dX3_readLaw_19 ?_
  refine g_iloadn C dX3_readLaw_22 0 rfl rfl ?_
  refine g_ti C ((lwN U n f)) C.2.2.2.2.2.2.1.2.2.2.1 rfl (by omega) (by decide) dX3_readLaw_23 ?_
  refine g_getsN C (host := "HiredClaque") C.2.2.2.2.2.2.1.2.2.2.2.1 w_4 dX3_readLaw_24 ?_
  refine g_iloadn C dX3_readLaw_27 0 rfl rfl ?_
  refine g_ti C ((lwN U n f)) C.2.2.2.2.2.2.1.2.2.2.2.1 rfl (by omega) (by decide) dX3_readLaw_28 ?_
  refine g_callWi (w1 := (tw q a ((tL t), (tB t), (nI (kdT U n (FB U n (EN U n f)))), (nI (FB U n (EN U n f))), (nI (EN U n (FB U n (EN U n f))))) ++ (hw q b h))) (wr := ([2, 3, 4, 5, 6, 7, 8, 9] : List Nat).filterMap (fun i => (tw q a ((tL t), (tB t), (nI (kdT U n (FB U n (EN U n f)))), (nI (FB U n (EN U n f))), (nI (EN U n (FB U n (EN U n f))))) ++ (hw q b h))[i]?)) (isC := [0, 1]) (isR := [2, 3, 4, 5, 6, 7, 8, 9]) (pm := [8, 9, 0, 1, 2, 3, 4, 5, 6, 7]) (w1' := (fun _ => (tw q a ((tL t), (tB t), (nI (kdT U n (FB U n (EN U n f)))), (nI (FB U n (EN U n f))), (nI (EN U n (FB U n (EN U n f))))) ++ (hw q b h)))) C (rd_V C (k_takeNumN l D q tt a t U n (FB U n (EN U n f)) (tLL.getD (lwN U n f) 0) (tLM.getD (lwN U n f) 0) (by first | assumption | omega) (by first | assumption | omega) (by first | assumption | omega) (nx2_le hf) hb) gX3_readLaw_X3_takeNumber rfl rfl rfl 2 ok_X3_takeNumber rfl 0 rfl rfl (rest := []) rfl rfl (Nat.le_of_ble_eq_true rfl) dX3_readLaw_29 ⟨(Nat.le_of_ble_eq_true rfl), (Nat.le_of_ble_eq_true rfl)⟩ ⟨(Nat.le_of_ble_eq_true rfl), (Nat.le_of_ble_eq_true rfl)⟩) rfl rfl rfl (fun _ => rfl) rfl (fun r_29 _ h_29 => ?_)
  obtain rfl := h_29
  refine g_istoren C [(3, .int (-1)), (2, .int (nI (lwN U n f))), (0, .ref (a 0)), (1, .ref (b 0))] dX3_readLaw_32 rfl (by decide) rfl ?_
  refine g_iloadn C dX3_readLaw_33 0 rfl rfl ?_
  refine g_iconst C (-1) dX3_readLaw_34 (by decide) ?_
  refine g_icmp_ne C 40 dX3_readLaw_35 rfl (fun c_35 => ?_) (fun c_35 => ?_)
  · exfalso
    exact c_35 rfl
  · refine g_iconst C 0 dX3_readLaw_38 (by decide) ?_
    exact g_zret C () hr rfl dX3_readLaw_39 (Nat.le_of_ble_eq_true rfl) (Nat.le_of_ble_eq_true rfl) rfl (rfl)

set_option maxRecDepth 100000 in
set_option maxHeartbeats 4000000 in
theorem k_readLawY (l : Launch) (D : va_G) (q : Nat → ClassId) (tt : Nat → Nat) (a : Nat → Nat) (t : TC) (U : Nat → Int32) (n : Nat) (f : Nat) (b : Nat → Nat) (h : HC) (S : Nat → Int32) (N : Nat) (hn : tL t = nI n) (hn2 : n ≤ 200) (hU : TPR (tB t) U n) (hf : f ≤ n) (hG : Gd S N) (rS : HR S N h) (h4 : lwN U n f < 4) (hb : nbP U n (FB U n (EN U n f)) (tLL.getD (lwN U n f) 0) (tLM.getD (lwN U n f) 0)) : MI l D q tt yX3_readLaw wsX3_readLaw ({ frames := 6, cells := 0, slots := 0, locals := 128 } : Room) [.ref (a 0), .ref (b 0)] (tw q a ((tL t), (tB t), (nI (kdT U n f)), (nI f), (nI (EN U n f))) ++ (hw q b h)) (fun (r : Int32) (u : HC) => r = 1 ∧ HR (upd S (3 + (lwN U n f)) (vlT U n (FB U n (EN U n f)))) N u) (fun u => (tw q a ((tL t), (tB t), (nI (kdT U n (FB U n (EN U n (FB U n (EN U n f)))))), (nI (FB U n (EN U n (FB U n (EN U n f))))), (nI (EN U n (FB U n (EN U n (FB U n (EN U n f))))))) ++ (hw q b u))) 0 0 := by
  refine MI.of RX3 [(0, .ref (a 0)), (1, .ref (b 0))] (by decide) rfl rfl (Nat.le_of_ble_eq_true rfl) rfl ?_
  intro p e s m args below meth c A C hr hnm
  have w_0 : Cond.methodLinkNest RX3 78 yX4_isLaw "HiredClaque" ∈ nwL := by decide +kernel
  have w_1 : Cond.static yX4_isLaw ∈ wsX3_readLaw := by decide +kernel
  have w_2 : Cond.initialized yX4_isLaw.cls ∈ wsX3_readLaw := by decide +kernel
  have w_3 : Cond.fieldLinkNest RX3 82 RX4 "LAW_LEAST" "[I" "HiredClaque" ∈ nwL := by decide +kernel
  have w_4 : Cond.fieldLinkNest RX3 86 RX4 "LAW_MOST" "[I" "HiredClaque" ∈ nwL := by decide +kernel
  have w_5 : ∀ w ∈ u_ws RX0 TX0 11, w ∈ wsX3_readLaw := by decide +kernel
  have w_6 : Cond.fieldLink RX3 89 (TX0 0).1 (TX0 0).2.1 (TX0 0).2.2.1 ∈ wsX3_readLaw := by decide +kernel
  have hen := en_le (u := U) hf
  have hlw := lw_le U n f
  refine g_aloadn C dX3_readLaw_0 0 rfl rfl ?_
  refine g_callWi (w1 := (tw q a ((tL t), (tB t), (nI (kdT U n f)), (nI f), (nI (EN U n f))) ++ (hw q b h))) (wr := ([2, 3, 4, 5, 6, 7, 8, 9] : List Nat).filterMap (fun i => (tw q a ((tL t), (tB t), (nI (kdT U n f)), (nI f), (nI (EN U n f))) ++ (hw q b h))[i]?)) (isC := [0, 1]) (isR := [2, 3, 4, 5, 6, 7, 8, 9]) (pm := [8, 9, 0, 1, 2, 3, 4, 5, 6, 7]) (w1' := (fun _ => (tw q a ((tL t), (tB t), (nI (kdT U n f)), (nI f), (nI (EN U n f))) ++ (hw q b h)))) C (rd_V C (k_X3_lawNamed l D q tt a t U n f (by first | assumption | omega) (by first | assumption | omega) (by first | assumption | omega) (by first | assumption | omega)) gX3_readLaw_X3_lawNamed rfl rfl rfl 0 ok_X3_lawNamed rfl 0 rfl rfl (rest := []) rfl rfl (Nat.le_of_ble_eq_true rfl) dX3_readLaw_1 ⟨(Nat.le_of_ble_eq_true rfl), (Nat.le_of_ble_eq_true rfl)⟩ ⟨(Nat.le_of_ble_eq_true rfl), (Nat.le_of_ble_eq_true rfl)⟩) rfl rfl rfl (fun _ => rfl) rfl (fun r_1 _ h_1 => ?_)
  obtain rfl := h_1
  refine g_topci (nI (lwN U n f)) (if_neg (by omega)) ?_
  refine g_istoren C [(2, .int (nI (lwN U n f))), (0, .ref (a 0)), (1, .ref (b 0))] dX3_readLaw_4 rfl (by decide) rfl ?_
  refine g_iloadn C dX3_readLaw_5 0 rfl rfl ?_
  refine g_call0i C (rd_SN C (host := "HiredClaque") (k_X4_isLaw l D q tt (nI (lwN U n f)) ) gX3_readLaw_X4_isLaw_n78 rfl rfl rfl 1 ok_X4_isLaw w_0 w_1 w_2 (rest := []) rfl rfl (Nat.le_of_ble_eq_true rfl) dX3_readLaw_6 ⟨(Nat.le_of_ble_eq_true rfl), (Nat.le_of_ble_eq_true rfl)⟩ ⟨(Nat.le_of_ble_eq_true rfl), (Nat.le_of_ble_eq_true rfl)⟩) (fun _ => rfl) (fun r_6 _ h_6 => ?_)
  obtain rfl := h_6
  refine g_topci 1 (bI_t ⟨nI_pos' (by omega), nI_le (b := 3) (by omega) (by omega)⟩) ?_
  refine g_if_neT C 14 dX3_readLaw_9 rfl (by decide) ?_
  refine g_aloadn C dX3_readLaw_14 1 rfl rfl ?_
  refine g_callWv (w1 := (tw q a ((tL t), (tB t), (nI (kdT U n f)), (nI f), (nI (EN U n f))) ++ (hw q b h))) (wr := ([2, 3, 4, 5, 6, 7, 8, 9] : List Nat).filterMap (fun i => (tw q a ((tL t), (tB t), (nI (kdT U n f)), (nI f), (nI (EN U n f))) ++ (hw q b h))[i]?)) (isC := [0, 1]) (isR := [2, 3, 4, 5, 6, 7, 8, 9]) (pm := [8, 9, 0, 1, 2, 3, 4, 5, 6, 7]) (w1' := (fun _ => (tw q a ((tL t), (tB t), (nI (kdT U n (FB U n (EN U n f)))), (nI (FB U n (EN U n f))), (nI (EN U n (FB U n (EN U n f))))) ++ (hw q b h)))) C (rd_V C (k_X3_next l D q tt a ((tL t), (tB t), (nI (kdT U n f)), (nI f), (tE t)) U n (EN U n f) (by first | assumption | omega) (by first | assumption | omega) (by first | assumption | omega) hen.2) gX3_readLaw_X3_next rfl rfl rfl 0 ok_X3_next rfl 0 rfl rfl (rest := []) rfl rfl (Nat.le_of_ble_eq_true rfl) dX3_readLaw_15 ⟨(Nat.le_of_ble_eq_true rfl), (Nat.le_of_ble_eq_true rfl)⟩ ⟨(Nat.le_of_ble_eq_true rfl), (Nat.le_of_ble_eq_true rfl)⟩) rfl rfl rfl (fun _ => rfl) rfl (fun _ h_15 => ?_)
  refine g_wsc (tw q a ((tL t), (tB t), (nI (kdT U n (FB U n (EN U n f)))), (nI (FB U n (EN U n f))), (nI (EN U n (FB U n (EN U n f))))) ++ (hw q b h)) rfl ?_
  refine g_aloadn C dX3_readLaw_18 1 rfl rfl ?_
  refine g_getsN C (host := "HiredClaque") C.2.2.2.2.2.2.1.2.2.2.1 w_3 dX3_readLaw_19 ?_
  refine g_iloadn C dX3_readLaw_22 0 rfl rfl ?_
  refine g_ti C ((lwN U n f)) C.2.2.2.2.2.2.1.2.2.2.1 rfl (by omega) (by decide) dX3_readLaw_23 ?_
  refine g_getsN C (host := "HiredClaque") C.2.2.2.2.2.2.1.2.2.2.2.1 w_4 dX3_readLaw_24 ?_
  refine g_iloadn C dX3_readLaw_27 0 rfl rfl ?_
  refine g_ti C ((lwN U n f)) C.2.2.2.2.2.2.1.2.2.2.2.1 rfl (by omega) (by decide) dX3_readLaw_28 ?_
  refine g_callWi (w1 := (tw q a ((tL t), (tB t), (nI (kdT U n (FB U n (EN U n f)))), (nI (FB U n (EN U n f))), (nI (EN U n (FB U n (EN U n f))))) ++ (hw q b h))) (wr := ([2, 3, 4, 5, 6, 7, 8, 9] : List Nat).filterMap (fun i => (tw q a ((tL t), (tB t), (nI (kdT U n (FB U n (EN U n f)))), (nI (FB U n (EN U n f))), (nI (EN U n (FB U n (EN U n f))))) ++ (hw q b h))[i]?)) (isC := [0, 1]) (isR := [2, 3, 4, 5, 6, 7, 8, 9]) (pm := [8, 9, 0, 1, 2, 3, 4, 5, 6, 7]) (w1' := (fun _ => (tw q a ((tL t), (tB t), (nI (kdT U n (FB U n (EN U n (FB U n (EN U n f)))))), (nI (FB U n (EN U n (FB U n (EN U n f))))), (nI (EN U n (FB U n (EN U n (FB U n (EN U n f))))))) ++ (hw q b h)))) C (rd_V C (k_takeNumY l D q tt a t U n (FB U n (EN U n f)) (tLL.getD (lwN U n f) 0) (tLM.getD (lwN U n f) 0) (by first | assumption | omega) (by first | assumption | omega) (by first | assumption | omega) (nx2_le hf) hb) gX3_readLaw_X3_takeNumber rfl rfl rfl 2 ok_X3_takeNumber rfl 0 rfl rfl (rest := []) rfl rfl (Nat.le_of_ble_eq_true rfl) dX3_readLaw_29 ⟨(Nat.le_of_ble_eq_true rfl), (Nat.le_of_ble_eq_true rfl)⟩ ⟨(Nat.le_of_ble_eq_true rfl), (Nat.le_of_ble_eq_true rfl)⟩) rfl rfl rfl (fun _ => rfl) rfl (fun r_29 _ h_29 => ?_)
  obtain rfl := h_29
  refine g_istoren C [(3, .int (vlT U n (FB U n (EN U n f)))), (2, .int (nI (lwN U n f))), (0, .ref (a 0)), (1, .ref (b 0))] dX3_readLaw_32 rfl (by decide) rfl ?_
  refine g_iloadn C dX3_readLaw_33 0 rfl rfl ?_
  refine g_iconst C (-1) dX3_readLaw_34 (by decide) ?_
  refine g_icmp_ne C 40 dX3_readLaw_35 rfl (fun c_35 => ?_) (fun c_35 => ?_)
  · refine g_aloadn C dX3_readLaw_40 3 rfl rfl ?_
    refine g_get C fx0 w_5 2 0 (v := .ref (b 1)) rfl (by decide) w_6 rfl dX3_readLaw_41 ?_
    refine g_iloadn C dX3_readLaw_44 1 rfl rfl ?_
    refine g_iloadn C dX3_readLaw_45 0 rfl rfl ?_
    refine g_iast C 3 ((lwN U n f)) (f := (hL h)) rfl rfl (by omega) (by decide) dX3_readLaw_46 (tw q a ((tL t), (tB t), (nI (kdT U n (FB U n (EN U n (FB U n (EN U n f)))))), (nI (FB U n (EN U n (FB U n (EN U n f))))), (nI (EN U n (FB U n (EN U n (FB U n (EN U n f))))))) ++ (hw q b ((upd (hL h) (lwN U n f) (vlT U n (FB U n (EN U n f)))), (hK h), (hP h), (hE h), (hR h), (hN h), (hC h), (hM h), (hZ h), (hJ h), (hH h)))) rfl ?_
    refine g_iconst C 1 dX3_readLaw_47 (by decide) ?_
    exact g_zret C ((upd (hL h) (lwN U n f) (vlT U n (FB U n (EN U n f)))), (hK h), (hP h), (hE h), (hR h), (hN h), (hC h), (hM h), (hZ h), (hJ h), (hH h)) hr rfl dX3_readLaw_48 (Nat.le_of_ble_eq_true rfl) (Nat.le_of_ble_eq_true rfl) rfl (⟨rfl, hr_law rS h4⟩)
  · exfalso
    exact absurd (lw_lo2 h4 hb.2.2.1) (by rw [c_35]; decide)

