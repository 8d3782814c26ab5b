set_option maxRecDepth 100000 in
set_option maxHeartbeats 4000000 in
theorem k_X3_readOne (l : Launch) (D : va_G) (q : Nat → ClassId) (tt : Nat → Nat) (a : Nat → Nat) (t : TC) (U : Nat → Int32) (n : Nat) (f : Nat) (b : Nat → Nat) (h : HC) (S : Nat → Int32) (N : Nat) (hn : tL t = nI n) (hn2 : n ≤ 200) (hU : TPR (tB t) U n) (hf : f ≤ n) (hG : Gd S N) (rS : HR S N h) : MI l D q tt yX3_readOne wsX3_readOne ({ frames := 7, cells := 0, slots := 0, locals := 153 } : Room) [.ref (a 0), .ref (b 0)] (tw q a ((tL t), (tB t), (nI (kdT U n f)), (nI f), (nI (EN U n f))) ++ (hw q b h)) (fun (r : Int32) (u : HC) => r = (bI ((itR U n S N f).1 = 0)) ∧ ((itR U n S N f).1 = 0 → HR (itR U n S N f).2.2.1 (itR U n S N f).2.2.2 u)) (fun u => (tw q a ((tL t), (tB t), (nI (kdT U n (itR U n S N f).2.1)), (nI (itR U n S N f).2.1), (nI (EN U n (itR U n S N f).2.1))) ++ (hw q b u))) 0 0 := by
  refine MI.of RX3 [(0, .ref (a 0)), (1, .ref (b 0))] (by decide) rfl rfl (Nat.le_of_ble_eq_true rfl) rfl ?_
  intro p e s m args below meth c A C hr hnm
  have hki := ki_le U n f
  have hlw := lw_le U n f
  have hpG := pnR_G (u := U) (N := N) hf
  by_cases p_0 : (kiN U n f) = 6
  · refine g_aloadn C dX3_readOne_0 0 rfl rfl ?_
    by_cases p_1 : (lwN U n f) = 4
    · refine g_callWi (w1 := (tw q a ((tL t), (tB t), (nI (kdT U n f)), (nI f), (nI (EN U n f))) ++ (hw q b h))) (wr := ([2, 3, 4, 5, 6, 7, 8, 9] : List Nat).filterMap (fun i => (tw q a ((tL t), (tB t), (nI (kdT U n f)), (nI f), (nI (EN U n f))) ++ (hw q b h))[i]?)) (isC := [0, 1]) (isR := [2, 3, 4, 5, 6, 7, 8, 9]) (pm := [8, 9, 0, 1, 2, 3, 4, 5, 6, 7]) (w1' := (fun _ => (tw q a ((tL t), (tB t), (nI (kdT U n f)), (nI f), (nI (EN U n f))) ++ (hw q b h)))) C (rd_V C (k_X3_kindNamed l D q tt a t U n f (by first | assumption | omega) (by first | assumption | omega) (by first | assumption | omega) hf) gX3_readOne_X3_kindNamed rfl rfl rfl 0 ok_X3_kindNamed rfl 0 rfl rfl (rest := []) rfl rfl (Nat.le_of_ble_eq_true rfl) dX3_readOne_1 ⟨(Nat.le_of_ble_eq_true rfl), (Nat.le_of_ble_eq_true rfl)⟩ ⟨(Nat.le_of_ble_eq_true rfl), (Nat.le_of_ble_eq_true rfl)⟩) rfl rfl rfl (fun _ => rfl) rfl (fun r_1 _ h_1 => ?_)
      obtain rfl := h_1
      refine g_topci (-1) (if_pos p_0) ?_
      refine g_istoren C [(2, .int (-1)), (0, .ref (a 0)), (1, .ref (b 0))] dX3_readOne_4 rfl (by decide) rfl ?_
      refine g_iloadn C dX3_readOne_5 0 rfl rfl ?_
      refine g_iconst C (-1) dX3_readOne_6 (by decide) ?_
      refine g_icmp_ne C 18 dX3_readOne_7 rfl (fun c_7 => ?_) (fun c_7 => ?_)
      · exfalso
        exact c_7 rfl
      · refine g_aloadn C dX3_readOne_10 1 rfl rfl ?_
        refine g_aloadn C dX3_readOne_11 2 rfl rfl ?_
        refine g_callAi C (rd_V C (k_readLawN l D q tt a t U n f b h S N (by first | assumption | omega) (by first | assumption | omega) (by first | assumption | omega) (by first | assumption | omega) (by first | assumption | omega) (by first | assumption | omega) (by omega)) gX3_readOne_X3_readLaw rfl rfl rfl 1 ok_X3_readLaw rfl 0 rfl rfl (rest := []) rfl rfl (Nat.le_of_ble_eq_true rfl) dX3_readOne_12 ⟨(Nat.le_of_ble_eq_true rfl), (Nat.le_of_ble_eq_true rfl)⟩ ⟨(Nat.le_of_ble_eq_true rfl), (Nat.le_of_ble_eq_true rfl)⟩) (fun r_12 _ h_12 => ?_)
        obtain rfl := h_12
        refine g_goto C 24 dX3_readOne_15 rfl ?_
        refine g_istoren C [(3, .int 0), (2, .int (-1)), (0, .ref (a 0)), (1, .ref (b 0))] dX3_readOne_24 rfl (by decide) rfl ?_
        refine g_iloadn C dX3_readOne_25 0 rfl rfl ?_
        refine g_if_eqT C 40 dX3_readOne_26 rfl (by decide) ?_
        have hR_ : (itR U n S N f) = (1, f, S, N) := by
            unfold itR
            rw [if_neg (show ¬ kiN U n f < 6 by omega)]
            rw [if_neg (show ¬ lwN U n f < 4 by omega)]
        refine g_wsc (tw q a ((tL t), (tB t), (nI (kdT U n (itR U n S N f).2.1)), (nI (itR U n S N f).2.1), (nI (EN U n (itR U n S N f).2.1))) ++ (hw q b h)) (by first | (rw [hR_]; done) | (rw [hR_]; rfl)) ?_
        refine g_iconst C 0 dX3_readOne_40 (by decide) ?_
        exact g_zret C h hr rfl dX3_readOne_41 (Nat.le_of_ble_eq_true rfl) (Nat.le_of_ble_eq_true rfl) rfl (⟨(bI_n (by rw [hR_]; exact (show ¬ (1 : Int32) = 0 by decide))).symm, fun h_ => absurd h_ (by rw [hR_]; exact (show ¬ (1 : Int32) = 0 by decide))⟩)
    · refine g_callWi (w1 := (tw q a ((tL t), (tB t), (nI (kdT U n f)), (nI f), (nI (EN U n f))) ++ (hw q b h))) (wr := ([2, 3, 4, 5, 6, 7, 8, 9] : List Nat).filterMap (fun i => (tw q a ((tL t), (tB t), (nI (kdT U n f)), (nI f), (nI (EN U n f))) ++ (hw q b h))[i]?)) (isC := [0, 1]) (isR := [2, 3, 4, 5, 6, 7, 8, 9]) (pm := [8, 9, 0, 1, 2, 3, 4, 5, 6, 7]) (w1' := (fun _ => (tw q a ((tL t), (tB t), (nI (kdT U n f)), (nI f), (nI (EN U n f))) ++ (hw q b h)))) C (rd_V C (k_X3_kindNamed l D q tt a t U n f (by first | assumption | omega) (by first | assumption | omega) (by first | assumption | omega) hf) gX3_readOne_X3_kindNamed rfl rfl rfl 0 ok_X3_kindNamed rfl 0 rfl rfl (rest := []) rfl rfl (Nat.le_of_ble_eq_true rfl) dX3_readOne_1 ⟨(Nat.le_of_ble_eq_true rfl), (Nat.le_of_ble_eq_true rfl)⟩ ⟨(Nat.le_of_ble_eq_true rfl), (Nat.le_of_ble_eq_true rfl)⟩) rfl rfl rfl (fun _ => rfl) rfl (fun r_1 _ h_1 => ?_)
      obtain rfl := h_1
      refine g_topci (-1) (if_pos p_0) ?_
      refine g_istoren C [(2, .int (-1)), (0, .ref (a 0)), (1, .ref (b 0))] dX3_readOne_4 rfl (by decide) rfl ?_
      refine g_iloadn C dX3_readOne_5 0 rfl rfl ?_
      refine g_iconst C (-1) dX3_readOne_6 (by decide) ?_
      refine g_icmp_ne C 18 dX3_readOne_7 rfl (fun c_7 => ?_) (fun c_7 => ?_)
      · exfalso
        exact c_7 rfl
      · by_cases p_2 : nbP U n (FB U n (EN U n f)) (tLL.getD (lwN U n f) 0) (tLM.getD (lwN U n f) 0)
        · refine g_aloadn C dX3_readOne_10 1 rfl rfl ?_
          refine g_aloadn C dX3_readOne_11 2 rfl rfl ?_
          refine g_callAi C (rd_V C (k_readLawY l D q tt a t U n f b h S N (by first | assumption | omega) (by first | assumption | omega) (by first | assumption | omega) (by first | assumption | omega) (by first | assumption | omega) (by first | assumption | omega) (by omega) p_2) gX3_readOne_X3_readLaw rfl rfl rfl 1 ok_X3_readLaw rfl 0 rfl rfl (rest := []) rfl rfl (Nat.le_of_ble_eq_true rfl) dX3_readOne_12 ⟨(Nat.le_of_ble_eq_true rfl), (Nat.le_of_ble_eq_true rfl)⟩ ⟨(Nat.le_of_ble_eq_true rfl), (Nat.le_of_ble_eq_true rfl)⟩) (fun r_12 u_12 h_12 => ?_)
          obtain ⟨rfl, h_12⟩ := h_12
          refine g_goto C 24 dX3_readOne_15 rfl ?_
          refine g_istoren C [(3, .int 1), (2, .int (-1)), (0, .ref (a 0)), (1, .ref (b 0))] dX3_readOne_24 rfl (by decide) rfl ?_
          refine g_iloadn C dX3_readOne_25 0 rfl rfl ?_
          refine g_if_eqF C 40 dX3_readOne_26 rfl (by decide) ?_
          by_cases p_29 : (kdT U n (FB U n (EN U n (FB U n (EN U n f)))) = 3 ∧ U (FB U n (EN U n (FB U n (EN U n f)))) = 59)
          · refine g_aloadn C dX3_readOne_29 2 rfl rfl ?_
            refine g_callWi (w1 := (tw q a ((tL t), (tB t), (nI (kdT U n (FB U n (EN U n (FB U n (EN U n f)))))), (nI (FB U n (EN U n (FB U n (EN U n f))))), (nI (EN U n (FB U n (EN U n (FB U n (EN U n f))))))) ++ (hw q b u_12))) (wr := ([2, 3, 4, 5, 6, 7, 8, 9] : List Nat).filterMap (fun i => (tw q a ((tL t), (tB t), (nI (kdT U n (FB U n (EN U n (FB U n (EN U n f)))))), (nI (FB U n (EN U n (FB U n (EN U n f))))), (nI (EN U n (FB U n (EN U n (FB U n (EN U n f))))))) ++ (hw q b u_12))[i]?)) (isC := [0, 1]) (isR := [2, 3, 4, 5, 6, 7, 8, 9]) (pm := [8, 9, 0, 1, 2, 3, 4, 5, 6, 7]) (w1' := (fun _ => (tw q a ((tL t), (tB t), (nI (kdT U n (FB U n (EN U n (FB U n (EN U n (FB U n (EN U n f)))))))), (nI (FB U n (EN U n (FB U n (EN U n (FB U n (EN U n f))))))), (nI (EN U n (FB U n (EN U n (FB U n (EN U n (FB U n (EN U n f))))))))) ++ (hw q b u_12)))) C (rd_V C (k_takeSemiY l D q tt a t U n (FB U n (EN U n (FB U n (EN U n f)))) (by first | assumption | omega) (by first | assumption | omega) (by first | assumption | omega) (nx2_le (nx2_le hf)) p_29) gX3_readOne_X3_takeSemicolon rfl rfl rfl 0 ok_X3_takeSemicolon rfl 0 rfl rfl (rest := []) rfl rfl (Nat.le_of_ble_eq_true rfl) dX3_readOne_30 ⟨(Nat.le_of_ble_eq_true rfl), (Nat.le_of_ble_eq_true rfl)⟩ ⟨(Nat.le_of_ble_eq_true rfl), (Nat.le_of_ble_eq_true rfl)⟩) rfl rfl rfl (fun _ => rfl) rfl (fun r_30 _ h_30 => ?_)
            obtain rfl := h_30
            refine g_if_eqF C 40 dX3_readOne_33 rfl (by decide) ?_
            have hR_ : (itR U n S N f) = (0, (FB U n (EN U n (FB U n (EN U n (FB U n (EN U n f)))))), (upd S (3 + (lwN U n f)) (vlT U n (FB U n (EN U n f)))), N) := by
                unfold itR
                rw [if_neg (show ¬ kiN U n f < 6 by omega)]
                rw [if_pos (show lwN U n f < 4 by omega)]
                rw [if_pos p_2]
                unfold smR
                rw [if_pos p_29]
            refine g_wsc (tw q a ((tL t), (tB t), (nI (kdT U n (itR U n S N f).2.1)), (nI (itR U n S N f).2.1), (nI (EN U n (itR U n S N f).2.1))) ++ (hw q b u_12)) (by first | (rw [hR_]; done) | (rw [hR_]; rfl)) ?_
            refine g_iconst C 1 dX3_readOne_36 (by decide) ?_
            refine g_goto C 41 dX3_readOne_37 rfl ?_
            exact g_zret C u_12 hr rfl dX3_readOne_41 (Nat.le_of_ble_eq_true rfl) (Nat.le_of_ble_eq_true rfl) rfl (⟨(bI_t (by rw [hR_])).symm, fun _ => by rw [hR_]; exact h_12⟩)
          · refine g_aloadn C dX3_readOne_29 2 rfl rfl ?_
            refine g_callWi (w1 := (tw q a ((tL t), (tB t), (nI (kdT U n (FB U n (EN U n (FB U n (EN U n f)))))), (nI (FB U n (EN U n (FB U n (EN U n f))))), (nI (EN U n (FB U n (EN U n (FB U n (EN U n f))))))) ++ (hw q b u_12))) (wr := ([2, 3, 4, 5, 6, 7, 8, 9] : List Nat).filterMap (fun i => (tw q a ((tL t), (tB t), (nI (kdT U n (FB U n (EN U n (FB U n (EN U n f)))))), (nI (FB U n (EN U n (FB U n (EN U n f))))), (nI (EN U n (FB U n (EN U n (FB U n (EN U n f))))))) ++ (hw q b u_12))[i]?)) (isC := [0, 1]) (isR := [2, 3, 4, 5, 6, 7, 8, 9]) (pm := [8, 9, 0, 1, 2, 3, 4, 5, 6, 7]) (w1' := (fun _ => (tw q a ((tL t), (tB t), (nI (kdT U n (FB U n (EN U n (FB U n (EN U n f)))))), (nI (FB U n (EN U n (FB U n (EN U n f))))), (nI (EN U n (FB U n (EN U n (FB U n (EN U n f))))))) ++ (hw q b u_12)))) C (rd_V C (k_takeSemiN l D q tt a t U n (FB U n (EN U n (FB U n (EN U n f)))) (by first | assumption | omega) (by first | assumption | omega) (by first | assumption | omega) (nx2_le (nx2_le hf)) p_29) gX3_readOne_X3_takeSemicolon rfl rfl rfl 0 ok_X3_takeSemicolon rfl 0 rfl rfl (rest := []) rfl rfl (Nat.le_of_ble_eq_true rfl) dX3_readOne_30 ⟨(Nat.le_of_ble_eq_true rfl), (Nat.le_of_ble_eq_true rfl)⟩ ⟨(Nat.le_of_ble_eq_true rfl), (Nat.le_of_ble_eq_true rfl)⟩) rfl rfl rfl (fun _ => rfl) rfl (fun r_30 _ h_30 => ?_)
            obtain rfl := h_30
            refine g_if_eqT C 40 dX3_readOne_33 rfl (by decide) ?_
            have hR_ : (itR U n S N f) = (1, (FB U n (EN U n (FB U n (EN U n f)))), (upd S (3 + (lwN U n f)) (vlT U n (FB U n (EN U n f)))), N) := by
                unfold itR
                rw [if_neg (show ¬ kiN U n f < 6 by omega)]
                rw [if_pos (show lwN U n f < 4 by omega)]
                rw [if_pos p_2]
                unfold smR
                rw [if_neg p_29]
            refine g_wsc (tw q a ((tL t), (tB t), (nI (kdT U n (itR U n S N f).2.1)), (nI (itR U n S N f).2.1), (nI (EN U n (itR U n S N f).2.1))) ++ (hw q b u_12)) (by first | (rw [hR_]; done) | (rw [hR_]; rfl)) ?_
            refine g_iconst C 0 dX3_readOne_40 (by decide) ?_
            exact g_zret C u_12 hr rfl dX3_readOne_41 (Nat.le_of_ble_eq_true rfl) (Nat.le_of_ble_eq_true rfl) rfl (⟨(bI_n (by rw [hR_]; exact (show ¬ (1 : Int32) = 0 by decide))).symm, fun h_ => absurd h_ (by rw [hR_]; exact (show ¬ (1 : Int32) = 0 by decide))⟩)
        · refine g_aloadn C dX3_readOne_10 1 rfl rfl ?_
          refine g_aloadn C dX3_readOne_11 2 rfl rfl ?_
          refine g_callAi C (rd_V C (k_readLawB l D q tt a t U n f b h S N (by first | assumption | omega) (by first | assumption | omega) (by first | assumption | omega) (by first | assumption | omega) (by first | assumption | omega) (by first | assumption | omega) (by omega) p_2) gX3_readOne_X3_readLaw rfl rfl rfl 1 ok_X3_readLaw rfl 0 rfl rfl (rest := []) rfl rfl (Nat.le_of_ble_eq_true rfl) dX3_readOne_12 ⟨(Nat.le_of_ble_eq_true rfl), (Nat.le_of_ble_eq_true rfl)⟩ ⟨(Nat.le_of_ble_eq_true rfl), (Nat.le_of_ble_eq_true rfl)⟩) (fun r_12 _ h_12 => ?_)
          obtain rfl := h_12
          refine g_goto C 24 dX3_readOne_15 rfl ?_
          refine g_istoren C [(3, .int 0), (2, .int (-1)), (0, .ref (a 0)), (1, .ref (b 0))] dX3_readOne_24 rfl (by decide) rfl ?_
          refine g_iloadn C dX3_readOne_25 0 rfl rfl ?_
          refine g_if_eqT C 40 dX3_readOne_26 rfl (by decide) ?_
          have hR_ : (itR U n S N f) = (1, (FB U n (EN U n f)), S, N) := by
              unfold itR
              rw [if_neg (show ¬ kiN U n f < 6 by omega)]
              rw [if_pos (show lwN U n f < 4 by omega)]
              rw [if_neg p_2]
          refine g_wsc (tw q a ((tL t), (tB t), (nI (kdT U n (itR U n S N f).2.1)), (nI (itR U n S N f).2.1), (nI (EN U n (itR U n S N f).2.1))) ++ (hw q b h)) (by first | (rw [hR_]; done) | (rw [hR_]; rfl)) ?_
          refine g_iconst C 0 dX3_readOne_40 (by decide) ?_
          exact g_zret C h hr rfl dX3_readOne_41 (Nat.le_of_ble_eq_true rfl) (Nat.le_of_ble_eq_true rfl) rfl (⟨(bI_n (by rw [hR_]; exact (show ¬ (1 : Int32) = 0 by decide))).symm, fun h_ => absurd h_ (by rw [hR_]; exact (show ¬ (1 : Int32) = 0 by decide))⟩)
  · refine g_aloadn C dX3_readOne_0 0 rfl rfl ?_
    refine g_callWi (w1 := (tw q a ((tL t), (tB t), (nI (kdT U n f)), (nI f), (nI (EN U n f))) ++ (hw q b h))) (wr := ([2, 3, 4, 5, 6, 7, 8, 9] : List Nat).filterMap (fun i => (tw q a ((tL t), (tB t), (nI (kdT U n f)), (nI f), (nI (EN U n f))) ++ (hw q b h))[i]?)) (isC := [0, 1]) (isR := [2, 3, 4, 5, 6, 7, 8, 9]) (pm := [8, 9, 0, 1, 2, 3, 4, 5, 6, 7]) (w1' := (fun _ => (tw q a ((tL t), (tB t), (nI (kdT U n f)), (nI f), (nI (EN U n f))) ++ (hw q b h)))) C (rd_V C (k_X3_kindNamed l D q tt a t U n f (by first | assumption | omega) (by first | assumption | omega) (by first | assumption | omega) hf) gX3_readOne_X3_kindNamed rfl rfl rfl 0 ok_X3_kindNamed rfl 0 rfl rfl (rest := []) rfl rfl (Nat.le_of_ble_eq_true rfl) dX3_readOne_1 ⟨(Nat.le_of_ble_eq_true rfl), (Nat.le_of_ble_eq_true rfl)⟩ ⟨(Nat.le_of_ble_eq_true rfl), (Nat.le_of_ble_eq_true rfl)⟩) rfl rfl rfl (fun _ => rfl) rfl (fun r_1 _ h_1 => ?_)
    obtain rfl := h_1
    refine g_topci (nI (kiN U n f)) (if_neg p_0) ?_
    refine g_istoren C [(2, .int (nI (kiN U n f))), (0, .ref (a 0)), (1, .ref (b 0))] dX3_readOne_4 rfl (by decide) rfl ?_
    refine g_iloadn C dX3_readOne_5 0 rfl rfl ?_
    refine g_iconst C (-1) dX3_readOne_6 (by decide) ?_
    refine g_icmp_ne C 18 dX3_readOne_7 rfl (fun c_7 => ?_) (fun c_7 => ?_)
    · refine g_aloadn C dX3_readOne_18 1 rfl rfl ?_
      refine g_aloadn C dX3_readOne_19 2 rfl rfl ?_
      refine g_iloadn C dX3_readOne_20 0 rfl rfl ?_
      refine g_callAi C (rd_V C (k_X3_readPerson l D q tt a t U n f b h S N (nI (kiN U n f)) (by first | assumption | omega) (by first | assumption | omega) (by first | assumption | omega) (by first | assumption | omega) (by first | assumption | omega) (by first | assumption | omega)) gX3_readOne_X3_readPerson rfl rfl rfl 2 ok_X3_readPerson rfl 0 rfl rfl (rest := []) rfl rfl (Nat.le_of_ble_eq_true rfl) dX3_readOne_21 ⟨(Nat.le_of_ble_eq_true rfl), (Nat.le_of_ble_eq_true rfl)⟩ ⟨(Nat.le_of_ble_eq_true rfl), (Nat.le_of_ble_eq_true rfl)⟩) (fun r_21 u_21 h_21 => ?_)
      obtain ⟨rfl, h_21⟩ := h_21
      by_cases p_25 : (pnR U n N f).1 = 0
      · refine g_topci 1 (bI_t p_25) ?_
        refine g_istoren C [(3, .int 1), (2, .int (nI (kiN U n f))), (0, .ref (a 0)), (1, .ref (b 0))] dX3_readOne_24 rfl (by decide) rfl ?_
        refine g_iloadn C dX3_readOne_25 0 rfl rfl ?_
        refine g_if_eqF C 40 dX3_readOne_26 rfl (by decide) ?_
        by_cases p_29 : (kdT U n (pnR U n N f).2.1 = 3 ∧ U (pnR U n N f).2.1 = 59)
        · refine g_aloadn C dX3_readOne_29 2 rfl rfl ?_
          refine g_callWi (w1 := (tw q a ((tL t), (tB t), (nI (kdT U n (pnR U n N f).2.1)), (nI (pnR U n N f).2.1), (nI (EN U n (pnR U n N f).2.1))) ++ (hw q b u_21))) (wr := ([2, 3, 4, 5, 6, 7, 8, 9] : List Nat).filterMap (fun i => (tw q a ((tL t), (tB t), (nI (kdT U n (pnR U n N f).2.1)), (nI (pnR U n N f).2.1), (nI (EN U n (pnR U n N f).2.1))) ++ (hw q b u_21))[i]?)) (isC := [0, 1]) (isR := [2, 3, 4, 5, 6, 7, 8, 9]) (pm := [8, 9, 0, 1, 2, 3, 4, 5, 6, 7]) (w1' := (fun _ => (tw q a ((tL t), (tB t), (nI (kdT U n (FB U n (EN U n ((pnR U n N f).2.1))))), (nI (FB U n (EN U n ((pnR U n N f).2.1)))), (nI (EN U n (FB U n (EN U n ((pnR U n N f).2.1)))))) ++ (hw q b u_21)))) C (rd_V C (k_takeSemiY l D q tt a t U n ((pnR U n N f).2.1) (by first | assumption | omega) (by first | assumption | omega) (by first | assumption | omega) hpG.2.2.1 p_29) gX3_readOne_X3_takeSemicolon rfl rfl rfl 0 ok_X3_takeSemicolon rfl 0 rfl rfl (rest := []) rfl rfl (Nat.le_of_ble_eq_true rfl) dX3_readOne_30 ⟨(Nat.le_of_ble_eq_true rfl), (Nat.le_of_ble_eq_true rfl)⟩ ⟨(Nat.le_of_ble_eq_true rfl), (Nat.le_of_ble_eq_true rfl)⟩) rfl rfl rfl (fun _ => rfl) rfl (fun r_30 _ h_30 => ?_)
          obtain rfl := h_30
          refine g_if_eqF C 40 dX3_readOne_33 rfl (by decide) ?_
          have hR_ : (itR U n S N f) = (0, (FB U n (EN U n (pnR U n N f).2.1)), (cm5 S N (nI (kiN U n f)) (pnR U n N f).2.2.1 (pnR U n N f).2.2.2.1 (pnR U n N f).2.2.2.2.1 (pnR U n N f).2.2.2.2.2), N + 1) := by
              unfold itR
              rw [if_pos (show kiN U n f < 6 by omega)]
              rw [if_pos p_25]
              unfold smR
              rw [if_pos p_29]
          refine g_wsc (tw q a ((tL t), (tB t), (nI (kdT U n (itR U n S N f).2.1)), (nI (itR U n S N f).2.1), (nI (EN U n (itR U n S N f).2.1))) ++ (hw q b u_21)) (by first | (rw [hR_]; done) | (rw [hR_]; rfl)) ?_
          refine g_iconst C 1 dX3_readOne_36 (by decide) ?_
          refine g_goto C 41 dX3_readOne_37 rfl ?_
          exact g_zret C u_21 hr rfl dX3_readOne_41 (Nat.le_of_ble_eq_true rfl) (Nat.le_of_ble_eq_true rfl) rfl (⟨(bI_t (by rw [hR_])).symm, fun _ => by rw [hR_]; exact h_21 p_25⟩)
        · refine g_aloadn C dX3_readOne_29 2 rfl rfl ?_
          refine g_callWi (w1 := (tw q a ((tL t), (tB t), (nI (kdT U n (pnR U n N f).2.1)), (nI (pnR U n N f).2.1), (nI (EN U n (pnR U n N f).2.1))) ++ (hw q b u_21))) (wr := ([2, 3, 4, 5, 6, 7, 8, 9] : List Nat).filterMap (fun i => (tw q a ((tL t), (tB t), (nI (kdT U n (pnR U n N f).2.1)), (nI (pnR U n N f).2.1), (nI (EN U n (pnR U n N f).2.1))) ++ (hw q b u_21))[i]?)) (isC := [0, 1]) (isR := [2, 3, 4, 5, 6, 7, 8, 9]) (pm := [8, 9, 0, 1, 2, 3, 4, 5, 6, 7]) (w1' := (fun _ => (tw q a ((tL t), (tB t), (nI (kdT U n ((pnR U n N f).2.1))), (nI ((pnR U n N f).2.1)), (nI (EN U n ((pnR U n N f).2.1)))) ++ (hw q b u_21)))) C (rd_V C (k_takeSemiN l D q tt a t U n ((pnR U n N f).2.1) (by first | assumption | omega) (by first | assumption | omega) (by first | assumption | omega) hpG.2.2.1 p_29) gX3_readOne_X3_takeSemicolon rfl rfl rfl 0 ok_X3_takeSemicolon rfl 0 rfl rfl (rest := []) rfl rfl (Nat.le_of_ble_eq_true rfl) dX3_readOne_30 ⟨(Nat.le_of_ble_eq_true rfl), (Nat.le_of_ble_eq_true rfl)⟩ ⟨(Nat.le_of_ble_eq_true rfl), (Nat.le_of_ble_eq_true rfl)⟩) rfl rfl rfl (fun _ => rfl) rfl (fun r_30 _ h_30 => ?_)
          obtain rfl := h_30
          refine g_if_eqT C 40 dX3_readOne_33 rfl (by decide) ?_
          have hR_ : (itR U n S N f) = (1, (pnR U n N f).2.1, (cm5 S N (nI (kiN U n f)) (pnR U n N f).2.2.1 (pnR U n N f).2.2.2.1 (pnR U n N f).2.2.2.2.1 (pnR U n N f).2.2.2.2.2), N + 1) := by
              unfold itR
              rw [if_pos (show kiN U n f < 6 by omega)]
              rw [if_pos p_25]
              unfold smR
              rw [if_neg p_29]
          refine g_wsc (tw q a ((tL t), (tB t), (nI (kdT U n (itR U n S N f).2.1)), (nI (itR U n S N f).2.1), (nI (EN U n (itR U n S N f).2.1))) ++ (hw q b u_21)) (by first | (rw [hR_]; done) | (rw [hR_]; rfl)) ?_
          refine g_iconst C 0 dX3_readOne_40 (by decide) ?_
          exact g_zret C u_21 hr rfl dX3_readOne_41 (Nat.le_of_ble_eq_true rfl) (Nat.le_of_ble_eq_true rfl) rfl (⟨(bI_n (by rw [hR_]; exact (show ¬ (1 : Int32) = 0 by decide))).symm, fun h_ => absurd h_ (by rw [hR_]; exact (show ¬ (1 : Int32) = 0 by decide))⟩)
      · refine g_topci 0 (bI_n p_25) ?_
        refine g_istoren C [(3, .int 0), (2, .int (nI (kiN U n f))), (0, .ref (a 0)), (1, .ref (b 0))] dX3_readOne_24 rfl (by decide) rfl ?_
        refine g_iloadn C dX3_readOne_25 0 rfl rfl ?_
        refine g_if_eqT C 40 dX3_readOne_26 rfl (by decide) ?_
        have hR_ : (itR U n S N f) = (1, (pnR U n N f).2.1, S, N) := by
            unfold itR
            rw [if_pos (show kiN U n f < 6 by omega)]
            rw [if_neg p_25]
        refine g_wsc (tw q a ((tL t), (tB t), (nI (kdT U n (itR U n S N f).2.1)), (nI (itR U n S N f).2.1), (nI (EN U n (itR U n S N f).2.1))) ++ (hw q b u_21)) (by first | (rw [hR_]; done) | (rw [hR_]; rfl)) ?_
        refine g_iconst C 0 dX3_readOne_40 (by decide) ?_
        exact g_zret C u_21 hr rfl dX3_readOne_41 (Nat.le_of_ble_eq_true rfl) (Nat.le_of_ble_eq_true rfl) rfl (⟨(bI_n (by rw [hR_]; exact (show ¬ (1 : Int32) = 0 by decide))).symm, fun h_ => absurd h_ (by rw [hR_]; exact (show ¬ (1 : Int32) = 0 by decide))⟩)
    · exfalso
      exact absurd c_7 (ki_m1 (by omega))

