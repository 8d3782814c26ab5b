set_option maxRecDepth 100000 in
set_option maxHeartbeats 4000000 in
theorem k_X5_itemHere (l : Launch) (D : va_G) (q : Nat → ClassId) (tt : Nat → Nat) (a : Nat → Nat) (v : MC) (n : Nat) (f : Nat) (N : Nat) (htn : (m_taped v) = nI n) (hn2 : n ≤ 200) (hU : TPU (m_tape v) n) (hf : f ≤ n) (hN0 : (m_s v) 0 = nI N) (h8 : N ≤ 8) : MV l D q tt yX5_itemHere wsX5_itemHere ({ frames := 6, cells := 0, slots := 0, locals := 132 } : Room) [.ref (a 0)] (mw q a ((m_s v), (m_held v), (m_aside v), (m_before v), (m_untried v), (m_isHeld v), (m_tape v), (m_taped v), (nI (kdT (m_tape v) n f)), (nI f), (nI (EN (m_tape v) n f)), (vlT (m_tape v) n f), 0, (m_heard v), (m_isMoved v), (m_rows v), (m_rowN v), (m_sortOf v), (m_sizeOf v), (m_numbers v), (m_holdsWhat v), (m_holdsWhich v), (m_holdsMany v), (m_bodies v), (m_ran v), (m_actKind v), (m_actN v), (m_actA v), (m_isParted v))) (fun (u : Nat → Int32) => ((itR (m_tape v) n (m_s v) N f).1 = 0 → u = (itR (m_tape v) n (m_s v) N f).2.2.1) ∧ ∀ k, 47 ≤ k → u k = (m_s v) k) (fun u => (mw q a (u, (m_held v), (m_aside v), (m_before v), (m_untried v), (m_isHeld v), (m_tape v), (m_taped v), (nI (kdT (m_tape v) n (itR (m_tape v) n (m_s v) N f).2.1)), (nI (itR (m_tape v) n (m_s v) N f).2.1), (nI (EN (m_tape v) n (itR (m_tape v) n (m_s v) N f).2.1)), (vlT (m_tape v) n (itR (m_tape v) n (m_s v) N f).2.1), ((itR (m_tape v) n (m_s v) N f).1), (m_heard v), (m_isMoved v), (m_rows v), (m_rowN v), (m_sortOf v), (m_sizeOf v), (m_numbers v), (m_holdsWhat v), (m_holdsWhich v), (m_holdsMany v), (m_bodies v), (m_ran v), (m_actKind v), (m_actN v), (m_actA v), (m_isParted v)))) 0 0 := by
  refine MV.of RX5 [(0, .ref (a 0))] (by decide) rfl rfl (Nat.le_of_ble_eq_true rfl) rfl ?_
  intro p e s m args below meth c A C hr hnm
  have w_0 : ∀ w ∈ u_ws RX5 TX5 29, w ∈ wsX5_itemHere := by decide +kernel
  have w_1 : Cond.fieldLink RX5 91 (TX5 8).1 (TX5 8).2.1 (TX5 8).2.2.1 ∈ wsX5_itemHere := by decide +kernel
  have w_2 : Cond.fieldLink RX5 77 (TX5 9).1 (TX5 9).2.1 (TX5 9).2.2.1 ∈ wsX5_itemHere := by decide +kernel
  have hki := ki_le (m_tape v) n f
  have hlw := lw_le (m_tape v) n f
  have hpG := pnR_G (u := (m_tape v)) (N := N) hf
  have J_66w : ∀ (g : Nat) (T : Nat → Int32), (g ≤ n) → ((itR (m_tape v) n (m_s v) N f) = (1, g, (m_s v), N)) → (∀ k, 47 ≤ k → T k = (m_s v) k) → G p l e ({ frames := 6, cells := 0, slots := 0, locals := 132 } : Room) s m args below meth c 3 D A (MQ below (va_Qv (fun (u : Nat → Int32) => ((itR (m_tape v) n (m_s v) N f).1 = 0 → u = (itR (m_tape v) n (m_s v) N f).2.2.1) ∧ ∀ k, 47 ≤ k → u k = (m_s v) k) (Bw D A (fun u => (mw q a (u, (m_held v), (m_aside v), (m_before v), (m_untried v), (m_isHeld v), (m_tape v), (m_taped v), (nI (kdT (m_tape v) n (itR (m_tape v) n (m_s v) N f).2.1)), (nI (itR (m_tape v) n (m_s v) N f).2.1), (nI (EN (m_tape v) n (itR (m_tape v) n (m_s v) N f).2.1)), (vlT (m_tape v) n (itR (m_tape v) n (m_s v) N f).2.1), ((itR (m_tape v) n (m_s v) N f).1), (m_heard v), (m_isMoved v), (m_rows v), (m_rowN v), (m_sortOf v), (m_sizeOf v), (m_numbers v), (m_holdsWhat v), (m_holdsWhich v), (m_holdsMany v), (m_bodies v), (m_ran v), (m_actKind v), (m_actN v), (m_actA v), (m_isParted v))))) A) args s 0 0 A) 66 [(0, .ref (a 0))] [] (mw q a (T, (m_held v), (m_aside v), (m_before v), (m_untried v), (m_isHeld v), (m_tape v), (m_taped v), (nI (kdT (m_tape v) n g)), (nI g), (nI (EN (m_tape v) n g)), (vlT (m_tape v) n g), 1, (m_heard v), (m_isMoved v), (m_rows v), (m_rowN v), (m_sortOf v), (m_sizeOf v), (m_numbers v), (m_holdsWhat v), (m_holdsWhich v), (m_holdsMany v), (m_bodies v), (m_ran v), (m_actKind v), (m_actN v), (m_actA v), (m_isParted v))) 0 0 := by
    intro g T hg hW hT
    refine g_aloadn C dX5_itemHere_66 0 rfl rfl ?_
    have J_93 : ∀ (z : Int32), G p l e ({ frames := 6, cells := 0, slots := 0, locals := 132 } : Room) s m args below meth c 3 D A (MQ below (va_Qv (fun (u : Nat → Int32) => ((itR (m_tape v) n (m_s v) N f).1 = 0 → u = (itR (m_tape v) n (m_s v) N f).2.2.1) ∧ ∀ k, 47 ≤ k → u k = (m_s v) k) (Bw D A (fun u => (mw q a (u, (m_held v), (m_aside v), (m_before v), (m_untried v), (m_isHeld v), (m_tape v), (m_taped v), (nI (kdT (m_tape v) n (itR (m_tape v) n (m_s v) N f).2.1)), (nI (itR (m_tape v) n (m_s v) N f).2.1), (nI (EN (m_tape v) n (itR (m_tape v) n (m_s v) N f).2.1)), (vlT (m_tape v) n (itR (m_tape v) n (m_s v) N f).2.1), ((itR (m_tape v) n (m_s v) N f).1), (m_heard v), (m_isMoved v), (m_rows v), (m_rowN v), (m_sortOf v), (m_sizeOf v), (m_numbers v), (m_holdsWhat v), (m_holdsWhich v), (m_holdsMany v), (m_bodies v), (m_ran v), (m_actKind v), (m_actN v), (m_actA v), (m_isParted v))))) A) args s 0 0 A) 93 [(0, .ref (a 0))] [.int z, .ref (a 0)] (mw q a (T, (m_held v), (m_aside v), (m_before v), (m_untried v), (m_isHeld v), (m_tape v), (m_taped v), (nI (kdT (m_tape v) n g)), (nI g), (nI (EN (m_tape v) n g)), (vlT (m_tape v) n g), 1, (m_heard v), (m_isMoved v), (m_rows v), (m_rowN v), (m_sortOf v), (m_sizeOf v), (m_numbers v), (m_holdsWhat v), (m_holdsWhich v), (m_holdsMany v), (m_bodies v), (m_ran v), (m_actKind v), (m_actN v), (m_actA v), (m_isParted v))) 0 0 := by
      intro z
      refine g_callAv C (rd_V C (k_needsW l D q tt a (T, (m_held v), (m_aside v), (m_before v), (m_untried v), (m_isHeld v), (m_tape v), (m_taped v), (nI (kdT (m_tape v) n g)), (nI g), (nI (EN (m_tape v) n g)), (vlT (m_tape v) n g), (m_isWrong v), (m_heard v), (m_isMoved v), (m_rows v), (m_rowN v), (m_sortOf v), (m_sizeOf v), (m_numbers v), (m_holdsWhat v), (m_holdsWhich v), (m_holdsMany v), (m_bodies v), (m_ran v), (m_actKind v), (m_actN v), (m_actA v), (m_isParted v)) z ) gX5_itemHere_X5_needs rfl rfl rfl 1 ok_X5_needs rfl 0 rfl rfl (rest := []) rfl rfl (Nat.le_of_ble_eq_true rfl) dX5_itemHere_93 ⟨(Nat.le_of_ble_eq_true rfl), (Nat.le_of_ble_eq_true rfl)⟩ ⟨(Nat.le_of_ble_eq_true rfl), (Nat.le_of_ble_eq_true rfl)⟩) (fun _ h_93 => ?_)
      refine g_wsc (mw q a (T, (m_held v), (m_aside v), (m_before v), (m_untried v), (m_isHeld v), (m_tape v), (m_taped v), (nI (kdT (m_tape v) n g)), (nI g), (nI (EN (m_tape v) n g)), (vlT (m_tape v) n g), 1, (m_heard v), (m_isMoved v), (m_rows v), (m_rowN v), (m_sortOf v), (m_sizeOf v), (m_numbers v), (m_holdsWhat v), (m_holdsWhich v), (m_holdsMany v), (m_bodies v), (m_ran v), (m_actKind v), (m_actN v), (m_actA v), (m_isParted v))) rfl ?_
      have hR_ := hW
      refine g_wsc (mw q a (T, (m_held v), (m_aside v), (m_before v), (m_untried v), (m_isHeld v), (m_tape v), (m_taped v), (nI (kdT (m_tape v) n (itR (m_tape v) n (m_s v) N f).2.1)), (nI (itR (m_tape v) n (m_s v) N f).2.1), (nI (EN (m_tape v) n (itR (m_tape v) n (m_s v) N f).2.1)), (vlT (m_tape v) n (itR (m_tape v) n (m_s v) N f).2.1), ((itR (m_tape v) n (m_s v) N f).1), (m_heard v), (m_isMoved v), (m_rows v), (m_rowN v), (m_sortOf v), (m_sizeOf v), (m_numbers v), (m_holdsWhat v), (m_holdsWhich v), (m_holdsMany v), (m_bodies v), (m_ran v), (m_actKind v), (m_actN v), (m_actA v), (m_isParted v))) (by first | (rw [hR_]; done) | (rw [hR_]; rfl)) ?_
      exact g_vret C T hr dX5_itemHere_96 (Nat.le_of_ble_eq_true rfl) (Nat.le_of_ble_eq_true rfl) rfl (by rw [hR_]; exact ⟨fun h_ => absurd h_ (show ¬ (1 : Int32) = 0 by decide), hT⟩)
    refine g_aloadn C dX5_itemHere_67 0 rfl rfl ?_
    refine g_get C fx5 w_0 0 8 (v := .int (nI (kdT (m_tape v) n g))) rfl (by decide) w_1 rfl dX5_itemHere_68 ?_
    refine g_iconst C 3 dX5_itemHere_71 (by decide) ?_
    refine g_icmpN_ne C 92 ((kdT (m_tape v) n g)) (3) dX5_itemHere_72 rfl (kd_b _ _ _) (by omega) (fun c_72 => ?_) (fun c_72 => ?_)
    · refine g_iconst C 0 dX5_itemHere_92 (by decide) ?_
      exact J_93 (0)
    · refine g_aloadn C dX5_itemHere_75 0 rfl rfl ?_
      refine g_aloadn C dX5_itemHere_76 0 rfl rfl ?_
      refine g_get C fx5 w_0 0 9 (v := .int (nI g)) rfl (by decide) w_2 rfl dX5_itemHere_77 ?_
      refine g_callAi C (rd_V C (k_X5_byteAt l D q tt a (T, (m_held v), (m_aside v), (m_before v), (m_untried v), (m_isHeld v), (m_tape v), (m_taped v), (nI (kdT (m_tape v) n g)), (nI g), (nI (EN (m_tape v) n g)), (vlT (m_tape v) n g), 1, (m_heard v), (m_isMoved v), (m_rows v), (m_rowN v), (m_sortOf v), (m_sizeOf v), (m_numbers v), (m_holdsWhat v), (m_holdsWhich v), (m_holdsMany v), (m_bodies v), (m_ran v), (m_actKind v), (m_actN v), (m_actA v), (m_isParted v)) n g (by first | assumption | omega) (by first | assumption | omega) (by have := hg; omega)) gX5_itemHere_X5_byteAt rfl rfl rfl 1 ok_X5_byteAt rfl 0 rfl rfl (rest := [.ref (a 0)]) rfl rfl (Nat.le_of_ble_eq_true rfl) dX5_itemHere_80 ⟨(Nat.le_of_ble_eq_true rfl), (Nat.le_of_ble_eq_true rfl)⟩ ⟨(Nat.le_of_ble_eq_true rfl), (Nat.le_of_ble_eq_true rfl)⟩) (fun r_80 _ h_80 => ?_)
      obtain rfl := h_80
      refine g_topci (byT (m_tape v) n g) rfl ?_
      refine g_bipush C 59 dX5_itemHere_83 (by decide) ?_
      refine g_icmp_ne C 92 dX5_itemHere_85 rfl (fun c_85 => ?_) (fun c_85 => ?_)
      · refine g_iconst C 0 dX5_itemHere_92 (by decide) ?_
        exact J_93 (0)
      · refine g_iconst C 1 dX5_itemHere_88 (by decide) ?_
        refine g_goto C 93 dX5_itemHere_89 rfl ?_
        exact J_93 (1)
  have J_66ok : ∀ (g : Nat) (T : Nat → Int32) (M : Nat), (g ≤ n) → ((itR (m_tape v) n (m_s v) N f) = ((smR (m_tape v) n g).1, (smR (m_tape v) n g).2, T, M)) → (∀ k, 47 ≤ k → T k = (m_s v) k) → G p l e ({ frames := 6, cells := 0, slots := 0, locals := 132 } : Room) s m args below meth c 3 D A (MQ below (va_Qv (fun (u : Nat → Int32) => ((itR (m_tape v) n (m_s v) N f).1 = 0 → u = (itR (m_tape v) n (m_s v) N f).2.2.1) ∧ ∀ k, 47 ≤ k → u k = (m_s v) k) (Bw D A (fun u => (mw q a (u, (m_held v), (m_aside v), (m_before v), (m_untried v), (m_isHeld v), (m_tape v), (m_taped v), (nI (kdT (m_tape v) n (itR (m_tape v) n (m_s v) N f).2.1)), (nI (itR (m_tape v) n (m_s v) N f).2.1), (nI (EN (m_tape v) n (itR (m_tape v) n (m_s v) N f).2.1)), (vlT (m_tape v) n (itR (m_tape v) n (m_s v) N f).2.1), ((itR (m_tape v) n (m_s v) N f).1), (m_heard v), (m_isMoved v), (m_rows v), (m_rowN v), (m_sortOf v), (m_sizeOf v), (m_numbers v), (m_holdsWhat v), (m_holdsWhich v), (m_holdsMany v), (m_bodies v), (m_ran v), (m_actKind v), (m_actN v), (m_actA v), (m_isParted v))))) A) args s 0 0 A) 66 [(0, .ref (a 0))] [] (mw q a (T, (m_held v), (m_aside v), (m_before v), (m_untried v), (m_isHeld v), (m_tape v), (m_taped v), (nI (kdT (m_tape v) n g)), (nI g), (nI (EN (m_tape v) n g)), (vlT (m_tape v) n g), 0, (m_heard v), (m_isMoved v), (m_rows v), (m_rowN v), (m_sortOf v), (m_sizeOf v), (m_numbers v), (m_holdsWhat v), (m_holdsWhich v), (m_holdsMany v), (m_bodies v), (m_ran v), (m_actKind v), (m_actN v), (m_actA v), (m_isParted v))) 0 0 := by
    intro g T M hg hP hT
    refine g_aloadn C dX5_itemHere_66 0 rfl rfl ?_
    have J_93 : ∀ (z : Int32), (z = bI ((kdT (m_tape v) n g) = 3 ∧ (m_tape v) g = 59)) → G p l e ({ frames := 6, cells := 0, slots := 0, locals := 132 } : Room) s m args below meth c 3 D A (MQ below (va_Qv (fun (u : Nat → Int32) => ((itR (m_tape v) n (m_s v) N f).1 = 0 → u = (itR (m_tape v) n (m_s v) N f).2.2.1) ∧ ∀ k, 47 ≤ k → u k = (m_s v) k) (Bw D A (fun u => (mw q a (u, (m_held v), (m_aside v), (m_before v), (m_untried v), (m_isHeld v), (m_tape v), (m_taped v), (nI (kdT (m_tape v) n (itR (m_tape v) n (m_s v) N f).2.1)), (nI (itR (m_tape v) n (m_s v) N f).2.1), (nI (EN (m_tape v) n (itR (m_tape v) n (m_s v) N f).2.1)), (vlT (m_tape v) n (itR (m_tape v) n (m_s v) N f).2.1), ((itR (m_tape v) n (m_s v) N f).1), (m_heard v), (m_isMoved v), (m_rows v), (m_rowN v), (m_sortOf v), (m_sizeOf v), (m_numbers v), (m_holdsWhat v), (m_holdsWhich v), (m_holdsMany v), (m_bodies v), (m_ran v), (m_actKind v), (m_actN v), (m_actA v), (m_isParted v))))) A) args s 0 0 A) 93 [(0, .ref (a 0))] [.int z, .ref (a 0)] (mw q a (T, (m_held v), (m_aside v), (m_before v), (m_untried v), (m_isHeld v), (m_tape v), (m_taped v), (nI (kdT (m_tape v) n g)), (nI g), (nI (EN (m_tape v) n g)), (vlT (m_tape v) n g), 0, (m_heard v), (m_isMoved v), (m_rows v), (m_rowN v), (m_sortOf v), (m_sizeOf v), (m_numbers v), (m_holdsWhat v), (m_holdsWhich v), (m_holdsMany v), (m_bodies v), (m_ran v), (m_actKind v), (m_actN v), (m_actA v), (m_isParted v))) 0 0 := by
      intro z hz
      by_cases p_93 : ((kdT (m_tape v) n g) = 3 ∧ (m_tape v) g = 59)
      · refine g_topci 1 (hz.trans (bI_t p_93)) ?_
        refine g_callAv C (rd_V C (k_needsY l D q tt a (T, (m_held v), (m_aside v), (m_before v), (m_untried v), (m_isHeld v), (m_tape v), (m_taped v), (m_token v), (m_from v), (m_to v), (m_value v), (m_isWrong v), (m_heard v), (m_isMoved v), (m_rows v), (m_rowN v), (m_sortOf v), (m_sizeOf v), (m_numbers v), (m_holdsWhat v), (m_holdsWhich v), (m_holdsMany v), (m_bodies v), (m_ran v), (m_actKind v), (m_actN v), (m_actA v), (m_isParted v)) n g (by first | assumption | omega) (by first | assumption | omega) (by first | assumption | omega) hg) gX5_itemHere_X5_needs rfl rfl rfl 1 ok_X5_needs rfl 0 rfl rfl (rest := []) rfl rfl (Nat.le_of_ble_eq_true rfl) dX5_itemHere_93 ⟨(Nat.le_of_ble_eq_true rfl), (Nat.le_of_ble_eq_true rfl)⟩ ⟨(Nat.le_of_ble_eq_true rfl), (Nat.le_of_ble_eq_true rfl)⟩) (fun _ h_93 => ?_)
        refine g_wsc (mw q a (T, (m_held v), (m_aside v), (m_before v), (m_untried v), (m_isHeld v), (m_tape v), (m_taped v), (nI (kdT (m_tape v) n (FB (m_tape v) n (EN (m_tape v) n g)))), (nI (FB (m_tape v) n (EN (m_tape v) n g))), (nI (EN (m_tape v) n (FB (m_tape v) n (EN (m_tape v) n g)))), (vlT (m_tape v) n (FB (m_tape v) n (EN (m_tape v) n g))), 0, (m_heard v), (m_isMoved v), (m_rows v), (m_rowN v), (m_sortOf v), (m_sizeOf v), (m_numbers v), (m_holdsWhat v), (m_holdsWhich v), (m_holdsMany v), (m_bodies v), (m_ran v), (m_actKind v), (m_actN v), (m_actA v), (m_isParted v))) rfl ?_
        have hR_ : (itR (m_tape v) n (m_s v) N f) = (0, (FB (m_tape v) n (EN (m_tape v) n g)), T, M) := hP.trans (by unfold smR; rw [if_pos p_93])
        refine g_wsc (mw q a (T, (m_held v), (m_aside v), (m_before v), (m_untried v), (m_isHeld v), (m_tape v), (m_taped v), (nI (kdT (m_tape v) n (itR (m_tape v) n (m_s v) N f).2.1)), (nI (itR (m_tape v) n (m_s v) N f).2.1), (nI (EN (m_tape v) n (itR (m_tape v) n (m_s v) N f).2.1)), (vlT (m_tape v) n (itR (m_tape v) n (m_s v) N f).2.1), ((itR (m_tape v) n (m_s v) N f).1), (m_heard v), (m_isMoved v), (m_rows v), (m_rowN v), (m_sortOf v), (m_sizeOf v), (m_numbers v), (m_holdsWhat v), (m_holdsWhich v), (m_holdsMany v), (m_bodies v), (m_ran v), (m_actKind v), (m_actN v), (m_actA v), (m_isParted v))) (by first | (rw [hR_]; done) | (rw [hR_]; rfl)) ?_
        exact g_vret C T hr dX5_itemHere_96 (Nat.le_of_ble_eq_true rfl) (Nat.le_of_ble_eq_true rfl) rfl (by rw [hR_]; exact ⟨fun _ => rfl, hT⟩)
      · refine g_topci 0 (hz.trans (bI_n p_93)) ?_
        refine g_callAv C (rd_V C (k_needsN l D q tt a (T, (m_held v), (m_aside v), (m_before v), (m_untried v), (m_isHeld v), (m_tape v), (m_taped v), (nI (kdT (m_tape v) n g)), (nI g), (nI (EN (m_tape v) n g)), (vlT (m_tape v) n g), (m_isWrong v), (m_heard v), (m_isMoved v), (m_rows v), (m_rowN v), (m_sortOf v), (m_sizeOf v), (m_numbers v), (m_holdsWhat v), (m_holdsWhich v), (m_holdsMany v), (m_bodies v), (m_ran v), (m_actKind v), (m_actN v), (m_actA v), (m_isParted v)) ) gX5_itemHere_X5_needs rfl rfl rfl 1 ok_X5_needs rfl 0 rfl rfl (rest := []) rfl rfl (Nat.le_of_ble_eq_true rfl) dX5_itemHere_93 ⟨(Nat.le_of_ble_eq_true rfl), (Nat.le_of_ble_eq_true rfl)⟩ ⟨(Nat.le_of_ble_eq_true rfl), (Nat.le_of_ble_eq_true rfl)⟩) (fun _ h_93 => ?_)
        refine g_wsc (mw q a (T, (m_held v), (m_aside v), (m_before v), (m_untried v), (m_isHeld v), (m_tape v), (m_taped v), (nI (kdT (m_tape v) n g)), (nI g), (nI (EN (m_tape v) n g)), (vlT (m_tape v) n g), 1, (m_heard v), (m_isMoved v), (m_rows v), (m_rowN v), (m_sortOf v), (m_sizeOf v), (m_numbers v), (m_holdsWhat v), (m_holdsWhich v), (m_holdsMany v), (m_bodies v), (m_ran v), (m_actKind v), (m_actN v), (m_actA v), (m_isParted v))) rfl ?_
        have hR_ : (itR (m_tape v) n (m_s v) N f) = (1, g, T, M) := hP.trans (by unfold smR; rw [if_neg p_93])
        refine g_wsc (mw q a (T, (m_held v), (m_aside v), (m_before v), (m_untried v), (m_isHeld v), (m_tape v), (m_taped v), (nI (kdT (m_tape v) n (itR (m_tape v) n (m_s v) N f).2.1)), (nI (itR (m_tape v) n (m_s v) N f).2.1), (nI (EN (m_tape v) n (itR (m_tape v) n (m_s v) N f).2.1)), (vlT (m_tape v) n (itR (m_tape v) n (m_s v) N f).2.1), ((itR (m_tape v) n (m_s v) N f).1), (m_heard v), (m_isMoved v), (m_rows v), (m_rowN v), (m_sortOf v), (m_sizeOf v), (m_numbers v), (m_holdsWhat v), (m_holdsWhich v), (m_holdsMany v), (m_bodies v), (m_ran v), (m_actKind v), (m_actN v), (m_actA v), (m_isParted v))) (by first | (rw [hR_]; done) | (rw [hR_]; rfl)) ?_
        exact g_vret C T hr dX5_itemHere_96 (Nat.le_of_ble_eq_true rfl) (Nat.le_of_ble_eq_true rfl) rfl (by rw [hR_]; exact ⟨fun h_ => absurd h_ (show ¬ (1 : Int32) = 0 by decide), hT⟩)
    refine g_aloadn C dX5_itemHere_67 0 rfl rfl ?_
    refine g_get C fx5 w_0 0 8 (v := .int (nI (kdT (m_tape v) n g))) rfl (by decide) w_1 rfl dX5_itemHere_68 ?_
    refine g_iconst C 3 dX5_itemHere_71 (by decide) ?_
    refine g_icmpN_ne C 92 ((kdT (m_tape v) n g)) (3) dX5_itemHere_72 rfl (kd_b _ _ _) (by omega) (fun c_72 => ?_) (fun c_72 => ?_)
    · refine g_iconst C 0 dX5_itemHere_92 (by decide) ?_
      exact J_93 (0) (by first | exact (bI_t ⟨c_72, (by_59.mp c_85).2⟩).symm | exact (bI_n (fun h => by first | exact c_72 h.1 | exact c_85 (by_59.mpr ⟨kd_lt (by rw [h.1]; decide), h.2⟩))).symm)
    · refine g_aloadn C dX5_itemHere_75 0 rfl rfl ?_
      refine g_aloadn C dX5_itemHere_76 0 rfl rfl ?_
      refine g_get C fx5 w_0 0 9 (v := .int (nI g)) rfl (by decide) w_2 rfl dX5_itemHere_77 ?_
      refine g_callAi C (rd_V C (k_X5_byteAt l D q tt a (T, (m_held v), (m_aside v), (m_before v), (m_untried v), (m_isHeld v), (m_tape v), (m_taped v), (nI (kdT (m_tape v) n g)), (nI g), (nI (EN (m_tape v) n g)), (vlT (m_tape v) n g), 0, (m_heard v), (m_isMoved v), (m_rows v), (m_rowN v), (m_sortOf v), (m_sizeOf v), (m_numbers v), (m_holdsWhat v), (m_holdsWhich v), (m_holdsMany v), (m_bodies v), (m_ran v), (m_actKind v), (m_actN v), (m_actA v), (m_isParted v)) n g (by first | assumption | omega) (by first | assumption | omega) (by have := hg; omega)) gX5_itemHere_X5_byteAt rfl rfl rfl 1 ok_X5_byteAt rfl 0 rfl rfl (rest := [.ref (a 0)]) rfl rfl (Nat.le_of_ble_eq_true rfl) dX5_itemHere_80 ⟨(Nat.le_of_ble_eq_true rfl), (Nat.le_of_ble_eq_true rfl)⟩ ⟨(Nat.le_of_ble_eq_true rfl), (Nat.le_of_ble_eq_true rfl)⟩) (fun r_80 _ h_80 => ?_)
      obtain rfl := h_80
      refine g_topci (byT (m_tape v) n g) rfl ?_
      refine g_bipush C 59 dX5_itemHere_83 (by decide) ?_
      refine g_icmp_ne C 92 dX5_itemHere_85 rfl (fun c_85 => ?_) (fun c_85 => ?_)
      · refine g_iconst C 0 dX5_itemHere_92 (by decide) ?_
        exact J_93 (0) (by first | exact (bI_t ⟨c_72, (by_59.mp c_85).2⟩).symm | exact (bI_n (fun h => by first | exact c_72 h.1 | exact c_85 (by_59.mpr ⟨kd_lt (by rw [h.1]; decide), h.2⟩))).symm)
      · refine g_iconst C 1 dX5_itemHere_88 (by decide) ?_
        refine g_goto C 93 dX5_itemHere_89 rfl ?_
        exact J_93 (1) (by first | exact (bI_t ⟨c_72, (by_59.mp c_85).2⟩).symm | exact (bI_n (fun h => by first | exact c_72 h.1 | exact c_85 (by_59.mpr ⟨kd_lt (by rw [h.1]; decide), h.2⟩))).symm)
  by_cases p_0 : (kiN (m_tape v) n f) = 6
  · refine g_aloadn C dX5_itemHere_0 0 rfl rfl ?_
    by_cases p_1 : (lwN (m_tape v) n f) = 4
    · refine g_callAi C (rd_V C (k_X5_kindHere l D q tt a ((m_s v), (m_held v), (m_aside v), (m_before v), (m_untried v), (m_isHeld v), (m_tape v), (m_taped v), (m_token v), (m_from v), (m_to v), (m_value v), 0, (m_heard v), (m_isMoved v), (m_rows v), (m_rowN v), (m_sortOf v), (m_sizeOf v), (m_numbers v), (m_holdsWhat v), (m_holdsWhich v), (m_holdsMany v), (m_bodies v), (m_ran v), (m_actKind v), (m_actN v), (m_actA v), (m_isParted v)) n f (by first | assumption | omega) (by first | assumption | omega) (by first | assumption | omega) hf) gX5_itemHere_X5_kindHere rfl rfl rfl 0 ok_X5_kindHere rfl 0 rfl rfl (rest := []) rfl rfl (Nat.le_of_ble_eq_true rfl) dX5_itemHere_1 ⟨(Nat.le_of_ble_eq_true rfl), (Nat.le_of_ble_eq_true rfl)⟩ ⟨(Nat.le_of_ble_eq_true rfl), (Nat.le_of_ble_eq_true rfl)⟩) (fun r_1 _ h_1 => ?_)
      obtain rfl := h_1
      refine g_wsc (mw q a ((m_s v), (m_held v), (m_aside v), (m_before v), (m_untried v), (m_isHeld v), (m_tape v), (m_taped v), (nI (kdT (m_tape v) n f)), (nI f), (nI (EN (m_tape v) n f)), (vlT (m_tape v) n f), 0, (m_heard v), (m_isMoved v), (m_rows v), (m_rowN v), (m_sortOf v), (m_sizeOf v), (m_numbers v), (m_holdsWhat v), (m_holdsWhich v), (m_holdsMany v), (m_bodies v), (m_ran v), (m_actKind v), (m_actN v), (m_actA v), (m_isParted v))) rfl ?_
      refine g_topci (kiT (m_tape v) n f) rfl ?_
      refine g_topci (-1) (if_pos p_0) ?_
      refine g_istoren C [(1, .int (-1)), (0, .ref (a 0))] dX5_itemHere_4 rfl (by decide) rfl ?_
      refine g_aloadn C dX5_itemHere_5 1 rfl rfl ?_
      refine g_callAi C (rd_V C (k_X5_lawHere l D q tt a ((m_s v), (m_held v), (m_aside v), (m_before v), (m_untried v), (m_isHeld v), (m_tape v), (m_taped v), (m_token v), (m_from v), (m_to v), (m_value v), 0, (m_heard v), (m_isMoved v), (m_rows v), (m_rowN v), (m_sortOf v), (m_sizeOf v), (m_numbers v), (m_holdsWhat v), (m_holdsWhich v), (m_holdsMany v), (m_bodies v), (m_ran v), (m_actKind v), (m_actN v), (m_actA v), (m_isParted v)) n f (by first | assumption | omega) (by first | assumption | omega) (by first | assumption | omega) hf) gX5_itemHere_X5_lawHere rfl rfl rfl 0 ok_X5_lawHere rfl 0 rfl rfl (rest := []) rfl rfl (Nat.le_of_ble_eq_true rfl) dX5_itemHere_6 ⟨(Nat.le_of_ble_eq_true rfl), (Nat.le_of_ble_eq_true rfl)⟩ ⟨(Nat.le_of_ble_eq_true rfl), (Nat.le_of_ble_eq_true rfl)⟩) (fun r_6 _ h_6 => ?_)
      obtain rfl := h_6
      refine g_wsc (mw q a ((m_s v), (m_held v), (m_aside v), (m_before v), (m_untried v), (m_isHeld v), (m_tape v), (m_taped v), (nI (kdT (m_tape v) n f)), (nI f), (nI (EN (m_tape v) n f)), (vlT (m_tape v) n f), 0, (m_heard v), (m_isMoved v), (m_rows v), (m_rowN v), (m_sortOf v), (m_sizeOf v), (m_numbers v), (m_holdsWhat v), (m_holdsWhich v), (m_holdsMany v), (m_bodies v), (m_ran v), (m_actKind v), (m_actN v), (m_actA v), (m_isParted v))) rfl ?_
      refine g_topci (lwT (m_tape v) n f) rfl ?_
      refine g_topci (-1) (if_pos p_1) ?_
      refine g_istoren C [(2, .int (-1)), (1, .int (-1)), (0, .ref (a 0))] dX5_itemHere_9 rfl (by decide) rfl ?_
      refine g_iloadn C dX5_itemHere_10 1 rfl rfl ?_
      refine g_if_lt C 22 dX5_itemHere_11 rfl (fun c_11 => ?_) (fun c_11 => ?_)
      · refine g_iloadn C dX5_itemHere_22 0 rfl rfl ?_
        refine g_if_lt C 61 dX5_itemHere_23 rfl (fun c_23 => ?_) (fun c_23 => ?_)
        · refine g_aloadn C dX5_itemHere_61 2 rfl rfl ?_
          refine g_iconst C 0 dX5_itemHere_62 (by decide) ?_
          refine g_callAv C (rd_V C (k_needsN l D q tt a ((m_s v), (m_held v), (m_aside v), (m_before v), (m_untried v), (m_isHeld v), (m_tape v), (m_taped v), (nI (kdT (m_tape v) n f)), (nI f), (nI (EN (m_tape v) n f)), (vlT (m_tape v) n f), (m_isWrong v), (m_heard v), (m_isMoved v), (m_rows v), (m_rowN v), (m_sortOf v), (m_sizeOf v), (m_numbers v), (m_holdsWhat v), (m_holdsWhich v), (m_holdsMany v), (m_bodies v), (m_ran v), (m_actKind v), (m_actN v), (m_actA v), (m_isParted v)) ) gX5_itemHere_X5_needs rfl rfl rfl 1 ok_X5_needs rfl 0 rfl rfl (rest := []) rfl rfl (Nat.le_of_ble_eq_true rfl) dX5_itemHere_63 ⟨(Nat.le_of_ble_eq_true rfl), (Nat.le_of_ble_eq_true rfl)⟩ ⟨(Nat.le_of_ble_eq_true rfl), (Nat.le_of_ble_eq_true rfl)⟩) (fun _ h_63 => ?_)
          refine g_wsc (mw q a ((m_s v), (m_held v), (m_aside v), (m_before v), (m_untried v), (m_isHeld v), (m_tape v), (m_taped v), (nI (kdT (m_tape v) n f)), (nI f), (nI (EN (m_tape v) n f)), (vlT (m_tape v) n f), 1, (m_heard v), (m_isMoved v), (m_rows v), (m_rowN v), (m_sortOf v), (m_sizeOf v), (m_numbers v), (m_holdsWhat v), (m_holdsWhich v), (m_holdsMany v), (m_bodies v), (m_ran v), (m_actKind v), (m_actN v), (m_actA v), (m_isParted v))) rfl ?_
          refine g_sub [2] (lv' := [(0, .ref (a 0))]) rfl ?_
          exact J_66w (f) ((m_s v)) hf (by unfold itR; rw [if_neg (show ¬ kiN (m_tape v) n f < 6 by omega)]; rw [if_neg (show ¬ lwN (m_tape v) n f < 4 by omega)]) (fun _ _ => rfl)
        · exfalso
          exact c_23 (by decide)
      · exfalso
        exact c_11 (by decide)
    · refine g_callAi C (rd_V C (k_X5_kindHere l D q tt a ((m_s v), (m_held v), (m_aside v), (m_before v), (m_untried v), (m_isHeld v), (m_tape v), (m_taped v), (m_token v), (m_from v), (m_to v), (m_value v), 0, (m_heard v), (m_isMoved v), (m_rows v), (m_rowN v), (m_sortOf v), (m_sizeOf v), (m_numbers v), (m_holdsWhat v), (m_holdsWhich v), (m_holdsMany v), (m_bodies v), (m_ran v), (m_actKind v), (m_actN v), (m_actA v), (m_isParted v)) n f (by first | assumption | omega) (by first | assumption | omega) (by first | assumption | omega) hf) gX5_itemHere_X5_kindHere rfl rfl rfl 0 ok_X5_kindHere rfl 0 rfl rfl (rest := []) rfl rfl (Nat.le_of_ble_eq_true rfl) dX5_itemHere_1 ⟨(Nat.le_of_ble_eq_true rfl), (Nat.le_of_ble_eq_true rfl)⟩ ⟨(Nat.le_of_ble_eq_true rfl), (Nat.le_of_ble_eq_true rfl)⟩) (fun r_1 _ h_1 => ?_)
      obtain rfl := h_1
      refine g_wsc (mw q a ((m_s v), (m_held v), (m_aside v), (m_before v), (m_untried v), (m_isHeld v), (m_tape v), (m_taped v), (nI (kdT (m_tape v) n f)), (nI f), (nI (EN (m_tape v) n f)), (vlT (m_tape v) n f), 0, (m_heard v), (m_isMoved v), (m_rows v), (m_rowN v), (m_sortOf v), (m_sizeOf v), (m_numbers v), (m_holdsWhat v), (m_holdsWhich v), (m_holdsMany v), (m_bodies v), (m_ran v), (m_actKind v), (m_actN v), (m_actA v), (m_isParted v))) rfl ?_
      refine g_topci (kiT (m_tape v) n f) rfl ?_
      refine g_topci (-1) (if_pos p_0) ?_
      refine g_istoren C [(1, .int (-1)), (0, .ref (a 0))] dX5_itemHere_4 rfl (by decide) rfl ?_
      refine g_aloadn C dX5_itemHere_5 1 rfl rfl ?_
      refine g_callAi C (rd_V C (k_X5_lawHere l D q tt a ((m_s v), (m_held v), (m_aside v), (m_before v), (m_untried v), (m_isHeld v), (m_tape v), (m_taped v), (m_token v), (m_from v), (m_to v), (m_value v), 0, (m_heard v), (m_isMoved v), (m_rows v), (m_rowN v), (m_sortOf v), (m_sizeOf v), (m_numbers v), (m_holdsWhat v), (m_holdsWhich v), (m_holdsMany v), (m_bodies v), (m_ran v), (m_actKind v), (m_actN v), (m_actA v), (m_isParted v)) n f (by first | assumption | omega) (by first | assumption | omega) (by first | assumption | omega) hf) gX5_itemHere_X5_lawHere rfl rfl rfl 0 ok_X5_lawHere rfl 0 rfl rfl (rest := []) rfl rfl (Nat.le_of_ble_eq_true rfl) dX5_itemHere_6 ⟨(Nat.le_of_ble_eq_true rfl), (Nat.le_of_ble_eq_true rfl)⟩ ⟨(Nat.le_of_ble_eq_true rfl), (Nat.le_of_ble_eq_true rfl)⟩) (fun r_6 _ h_6 => ?_)
      obtain rfl := h_6
      refine g_wsc (mw q a ((m_s v), (m_held v), (m_aside v), (m_before v), (m_untried v), (m_isHeld v), (m_tape v), (m_taped v), (nI (kdT (m_tape v) n f)), (nI f), (nI (EN (m_tape v) n f)), (vlT (m_tape v) n f), 0, (m_heard v), (m_isMoved v), (m_rows v), (m_rowN v), (m_sortOf v), (m_sizeOf v), (m_numbers v), (m_holdsWhat v), (m_holdsWhich v), (m_holdsMany v), (m_bodies v), (m_ran v), (m_actKind v), (m_actN v), (m_actA v), (m_isParted v))) rfl ?_
      refine g_topci (lwT (m_tape v) n f) rfl ?_
      refine g_topci (nI (3 + (lwN (m_tape v) n f))) (if_neg p_1) ?_
      refine g_istoren C [(2, .int (nI (3 + (lwN (m_tape v) n f)))), (1, .int (-1)), (0, .ref (a 0))] dX5_itemHere_9 rfl (by decide) rfl ?_
      refine g_iloadn C dX5_itemHere_10 1 rfl rfl ?_
      refine g_if_lt C 22 dX5_itemHere_11 rfl (fun c_11 => ?_) (fun c_11 => ?_)
      · refine g_iloadn C dX5_itemHere_22 0 rfl rfl ?_
        refine g_if_lt C 61 dX5_itemHere_23 rfl (fun c_23 => ?_) (fun c_23 => ?_)
        · exfalso
          exact absurd c_23 (nI_pos (by omega))
        · refine g_aloadn C dX5_itemHere_26 2 rfl rfl ?_
          by_cases p_27 : nbP (m_tape v) n (FB (m_tape v) n (EN (m_tape v) n f)) (tLL.getD (lwN (m_tape v) n f) 0) (tLM.getD (lwN (m_tape v) n f) 0)
          · refine g_callAv C (rd_V C (k_X5_nextToken l D q tt a ((m_s v), (m_held v), (m_aside v), (m_before v), (m_untried v), (m_isHeld v), (m_tape v), (m_taped v), (nI (kdT (m_tape v) n f)), (nI f), (m_to v), (vlT (m_tape v) n f), 0, (m_heard v), (m_isMoved v), (m_rows v), (m_rowN v), (m_sortOf v), (m_sizeOf v), (m_numbers v), (m_holdsWhat v), (m_holdsWhich v), (m_holdsMany v), (m_bodies v), (m_ran v), (m_actKind v), (m_actN v), (m_actA v), (m_isParted v)) n (EN (m_tape v) n f) (by first | assumption | omega) (by first | assumption | omega) (by first | assumption | omega) (en_le (u := (m_tape v)) hf).2) gX5_itemHere_X5_nextToken rfl rfl rfl 0 ok_X5_nextToken rfl 0 rfl rfl (rest := []) rfl rfl (Nat.le_of_ble_eq_true rfl) dX5_itemHere_27 ⟨(Nat.le_of_ble_eq_true rfl), (Nat.le_of_ble_eq_true rfl)⟩ ⟨(Nat.le_of_ble_eq_true rfl), (Nat.le_of_ble_eq_true rfl)⟩) (fun _ h_27 => ?_)
            refine g_wsc (mw q a ((m_s v), (m_held v), (m_aside v), (m_before v), (m_untried v), (m_isHeld v), (m_tape v), (m_taped v), (nI (kdT (m_tape v) n (FB (m_tape v) n (EN (m_tape v) n f)))), (nI (FB (m_tape v) n (EN (m_tape v) n f))), (nI (EN (m_tape v) n (FB (m_tape v) n (EN (m_tape v) n f)))), (vlT (m_tape v) n (FB (m_tape v) n (EN (m_tape v) n f))), 0, (m_heard v), (m_isMoved v), (m_rows v), (m_rowN v), (m_sortOf v), (m_sizeOf v), (m_numbers v), (m_holdsWhat v), (m_holdsWhich v), (m_holdsMany v), (m_bodies v), (m_ran v), (m_actKind v), (m_actN v), (m_actA v), (m_isParted v))) rfl ?_
            refine g_aloadn C dX5_itemHere_30 2 rfl rfl ?_
            refine g_iloadn C dX5_itemHere_31 0 rfl rfl ?_
            refine g_iloadn C dX5_itemHere_32 0 rfl rfl ?_
            refine g_iconst C 4 dX5_itemHere_33 (by decide) ?_
            refine g_icmpN_ne C 41 ((3 + (lwN (m_tape v) n f))) (4) dX5_itemHere_34 rfl (by omega) (by omega) (fun c_34 => ?_) (fun c_34 => ?_)
            · refine g_iconst C 0 dX5_itemHere_41 (by decide) ?_
              refine g_topci (tLL.getD (lwN (m_tape v) n f) 0) (((lw_lo _ (by omega)).2 (by omega)).symm) ?_
              refine g_iloadn C dX5_itemHere_42 0 rfl rfl ?_
              refine g_bipush C 6 dX5_itemHere_43 (by decide) ?_
              refine g_icmpN_ne C 53 ((3 + (lwN (m_tape v) n f))) (6) dX5_itemHere_45 rfl (by omega) (by omega) (fun c_45 => ?_) (fun c_45 => ?_)
              · refine g_bipush C 9 dX5_itemHere_53 (by decide) ?_
                refine g_topci (tLM.getD (lwN (m_tape v) n f) 0) (((lw_hi _ (by omega)).2 (by omega)).symm) ?_
                refine g_callAv C (rd_V C (k_numY l D q tt a v n (FB (m_tape v) n (EN (m_tape v) n f)) (3 + (lwN (m_tape v) n f)) (tLL.getD (lwN (m_tape v) n f) 0) (tLM.getD (lwN (m_tape v) n f) 0) (by first | assumption | omega) (by first | assumption | omega) (by first | assumption | omega) (nx2_le hf) (by omega) p_27) gX5_itemHere_X5_numberTo rfl rfl rfl 3 ok_X5_numberTo rfl 0 rfl rfl (rest := []) rfl rfl (Nat.le_of_ble_eq_true rfl) dX5_itemHere_55 ⟨(Nat.le_of_ble_eq_true rfl), (Nat.le_of_ble_eq_true rfl)⟩ ⟨(Nat.le_of_ble_eq_true rfl), (Nat.le_of_ble_eq_true rfl)⟩) (fun _ h_55 => ?_)
                refine g_goto C 66 dX5_itemHere_58 rfl ?_
                refine g_sub [2] (lv' := [(0, .ref (a 0))]) rfl ?_
                exact J_66ok ((FB (m_tape v) n (EN (m_tape v) n (FB (m_tape v) n (EN (m_tape v) n f))))) ((upd (m_s v) (3 + (lwN (m_tape v) n f)) (vlT (m_tape v) n (FB (m_tape v) n (EN (m_tape v) n f))))) (N) (nx2_le (nx2_le hf)) (by unfold itR; rw [if_neg (show ¬ kiN (m_tape v) n f < 6 by omega)]; rw [if_pos (show lwN (m_tape v) n f < 4 by omega)]; rw [if_pos p_27]) (fun k_ hk_ => pk_un (by omega))
              · refine g_bipush C 99 dX5_itemHere_48 (by decide) ?_
                refine g_goto C 55 dX5_itemHere_50 rfl ?_
                refine g_topci (tLM.getD (lwN (m_tape v) n f) 0) (((lw_hi _ (by omega)).1 (by omega)).symm) ?_
                refine g_callAv C (rd_V C (k_numY l D q tt a v n (FB (m_tape v) n (EN (m_tape v) n f)) (3 + (lwN (m_tape v) n f)) (tLL.getD (lwN (m_tape v) n f) 0) (tLM.getD (lwN (m_tape v) n f) 0) (by first | assumption | omega) (by first | assumption | omega) (by first | assumption | omega) (nx2_le hf) (by omega) p_27) gX5_itemHere_X5_numberTo rfl rfl rfl 3 ok_X5_numberTo rfl 0 rfl rfl (rest := []) rfl rfl (Nat.le_of_ble_eq_true rfl) dX5_itemHere_55 ⟨(Nat.le_of_ble_eq_true rfl), (Nat.le_of_ble_eq_true rfl)⟩ ⟨(Nat.le_of_ble_eq_true rfl), (Nat.le_of_ble_eq_true rfl)⟩) (fun _ h_55 => ?_)
                refine g_goto C 66 dX5_itemHere_58 rfl ?_
                refine g_sub [2] (lv' := [(0, .ref (a 0))]) rfl ?_
                exact J_66ok ((FB (m_tape v) n (EN (m_tape v) n (FB (m_tape v) n (EN (m_tape v) n f))))) ((upd (m_s v) (3 + (lwN (m_tape v) n f)) (vlT (m_tape v) n (FB (m_tape v) n (EN (m_tape v) n f))))) (N) (nx2_le (nx2_le hf)) (by unfold itR; rw [if_neg (show ¬ kiN (m_tape v) n f < 6 by omega)]; rw [if_pos (show lwN (m_tape v) n f < 4 by omega)]; rw [if_pos p_27]) (fun k_ hk_ => pk_un (by omega))
            · refine g_iconst C 1 dX5_itemHere_37 (by decide) ?_
              refine g_goto C 42 dX5_itemHere_38 rfl ?_
              refine g_topci (tLL.getD (lwN (m_tape v) n f) 0) (((lw_lo _ (by omega)).1 (by omega)).symm) ?_
              refine g_iloadn C dX5_itemHere_42 0 rfl rfl ?_
              refine g_bipush C 6 dX5_itemHere_43 (by decide) ?_
              refine g_icmpN_ne C 53 ((3 + (lwN (m_tape v) n f))) (6) dX5_itemHere_45 rfl (by omega) (by omega) (fun c_45 => ?_) (fun c_45 => ?_)
              · refine g_bipush C 9 dX5_itemHere_53 (by decide) ?_
                refine g_topci (tLM.getD (lwN (m_tape v) n f) 0) (((lw_hi _ (by omega)).2 (by omega)).symm) ?_
                refine g_callAv C (rd_V C (k_numY l D q tt a v n (FB (m_tape v) n (EN (m_tape v) n f)) (3 + (lwN (m_tape v) n f)) (tLL.getD (lwN (m_tape v) n f) 0) (tLM.getD (lwN (m_tape v) n f) 0) (by first | assumption | omega) (by first | assumption | omega) (by first | assumption | omega) (nx2_le hf) (by omega) p_27) gX5_itemHere_X5_numberTo rfl rfl rfl 3 ok_X5_numberTo rfl 0 rfl rfl (rest := []) rfl rfl (Nat.le_of_ble_eq_true rfl) dX5_itemHere_55 ⟨(Nat.le_of_ble_eq_true rfl), (Nat.le_of_ble_eq_true rfl)⟩ ⟨(Nat.le_of_ble_eq_true rfl), (Nat.le_of_ble_eq_true rfl)⟩) (fun _ h_55 => ?_)
                refine g_goto C 66 dX5_itemHere_58 rfl ?_
                refine g_sub [2] (lv' := [(0, .ref (a 0))]) rfl ?_
                exact J_66ok ((FB (m_tape v) n (EN (m_tape v) n (FB (m_tape v) n (EN (m_tape v) n f))))) ((upd (m_s v) (3 + (lwN (m_tape v) n f)) (vlT (m_tape v) n (FB (m_tape v) n (EN (m_tape v) n f))))) (N) (nx2_le (nx2_le hf)) (by unfold itR; rw [if_neg (show ¬ kiN (m_tape v) n f < 6 by omega)]; rw [if_pos (show lwN (m_tape v) n f < 4 by omega)]; rw [if_pos p_27]) (fun k_ hk_ => pk_un (by omega))
              · refine g_bipush C 99 dX5_itemHere_48 (by decide) ?_
                refine g_goto C 55 dX5_itemHere_50 rfl ?_
                refine g_topci (tLM.getD (lwN (m_tape v) n f) 0) (((lw_hi _ (by omega)).1 (by omega)).symm) ?_
                refine g_callAv C (rd_V C (k_numY l D q tt a v n (FB (m_tape v) n (EN (m_tape v) n f)) (3 + (lwN (m_tape v) n f)) (tLL.getD (lwN (m_tape v) n f) 0) (tLM.getD (lwN (m_tape v) n f) 0) (by first | assumption | omega) (by first | assumption | omega) (by first | assumption | omega) (nx2_le hf) (by omega) p_27) gX5_itemHere_X5_numberTo rfl rfl rfl 3 ok_X5_numberTo rfl 0 rfl rfl (rest := []) rfl rfl (Nat.le_of_ble_eq_true rfl) dX5_itemHere_55 ⟨(Nat.le_of_ble_eq_true rfl), (Nat.le_of_ble_eq_true rfl)⟩ ⟨(Nat.le_of_ble_eq_true rfl), (Nat.le_of_ble_eq_true rfl)⟩) (fun _ h_55 => ?_)
                refine g_goto C 66 dX5_itemHere_58 rfl ?_
                refine g_sub [2] (lv' := [(0, .ref (a 0))]) rfl ?_
                exact J_66ok ((FB (m_tape v) n (EN (m_tape v) n (FB (m_tape v) n (EN (m_tape v) n f))))) ((upd (m_s v) (3 + (lwN (m_tape v) n f)) (vlT (m_tape v) n (FB (m_tape v) n (EN (m_tape v) n f))))) (N) (nx2_le (nx2_le hf)) (by unfold itR; rw [if_neg (show ¬ kiN (m_tape v) n f < 6 by omega)]; rw [if_pos (show lwN (m_tape v) n f < 4 by omega)]; rw [if_pos p_27]) (fun k_ hk_ => pk_un (by omega))
          · refine g_callAv C (rd_V C (k_X5_nextToken l D q tt a ((m_s v), (m_held v), (m_aside v), (m_before v), (m_untried v), (m_isHeld v), (m_tape v), (m_taped v), (nI (kdT (m_tape v) n f)), (nI f), (m_to v), (vlT (m_tape v) n f), 0, (m_heard v), (m_isMoved v), (m_rows v), (m_rowN v), (m_sortOf v), (m_sizeOf v), (m_numbers v), (m_holdsWhat v), (m_holdsWhich v), (m_holdsMany v), (m_bodies v), (m_ran v), (m_actKind v), (m_actN v), (m_actA v), (m_isParted v)) n (EN (m_tape v) n f) (by first | assumption | omega) (by first | assumption | omega) (by first | assumption | omega) (en_le (u := (m_tape v)) hf).2) gX5_itemHere_X5_nextToken rfl rfl rfl 0 ok_X5_nextToken rfl 0 rfl rfl (rest := []) rfl rfl (Nat.le_of_ble_eq_true rfl) dX5_itemHere_27 ⟨(Nat.le_of_ble_eq_true rfl), (Nat.le_of_ble_eq_true rfl)⟩ ⟨(Nat.le_of_ble_eq_true rfl), (Nat.le_of_ble_eq_true rfl)⟩) (fun _ h_27 => ?_)
            refine g_wsc (mw q a ((m_s v), (m_held v), (m_aside v), (m_before v), (m_untried v), (m_isHeld v), (m_tape v), (m_taped v), (nI (kdT (m_tape v) n (FB (m_tape v) n (EN (m_tape v) n f)))), (nI (FB (m_tape v) n (EN (m_tape v) n f))), (nI (EN (m_tape v) n (FB (m_tape v) n (EN (m_tape v) n f)))), (vlT (m_tape v) n (FB (m_tape v) n (EN (m_tape v) n f))), 0, (m_heard v), (m_isMoved v), (m_rows v), (m_rowN v), (m_sortOf v), (m_sizeOf v), (m_numbers v), (m_holdsWhat v), (m_holdsWhich v), (m_holdsMany v), (m_bodies v), (m_ran v), (m_actKind v), (m_actN v), (m_actA v), (m_isParted v))) rfl ?_
            refine g_aloadn C dX5_itemHere_30 2 rfl rfl ?_
            refine g_iloadn C dX5_itemHere_31 0 rfl rfl ?_
            refine g_iloadn C dX5_itemHere_32 0 rfl rfl ?_
            refine g_iconst C 4 dX5_itemHere_33 (by decide) ?_
            refine g_icmpN_ne C 41 ((3 + (lwN (m_tape v) n f))) (4) dX5_itemHere_34 rfl (by omega) (by omega) (fun c_34 => ?_) (fun c_34 => ?_)
            · refine g_iconst C 0 dX5_itemHere_41 (by decide) ?_
              refine g_topci (tLL.getD (lwN (m_tape v) n f) 0) (((lw_lo _ (by omega)).2 (by omega)).symm) ?_
              refine g_iloadn C dX5_itemHere_42 0 rfl rfl ?_
              refine g_bipush C 6 dX5_itemHere_43 (by decide) ?_
              refine g_icmpN_ne C 53 ((3 + (lwN (m_tape v) n f))) (6) dX5_itemHere_45 rfl (by omega) (by omega) (fun c_45 => ?_) (fun c_45 => ?_)
              · refine g_bipush C 9 dX5_itemHere_53 (by decide) ?_
                refine g_topci (tLM.getD (lwN (m_tape v) n f) 0) (((lw_hi _ (by omega)).2 (by omega)).symm) ?_
                refine g_callAv C (rd_V C (k_numN l D q tt a v n (FB (m_tape v) n (EN (m_tape v) n f)) (nI (3 + (lwN (m_tape v) n f))) (tLL.getD (lwN (m_tape v) n f) 0) (tLM.getD (lwN (m_tape v) n f) 0) (by first | assumption | omega) (by first | assumption | omega) (by first | assumption | omega) (nx2_le hf) p_27) gX5_itemHere_X5_numberTo rfl rfl rfl 3 ok_X5_numberTo rfl 0 rfl rfl (rest := []) rfl rfl (Nat.le_of_ble_eq_true rfl) dX5_itemHere_55 ⟨(Nat.le_of_ble_eq_true rfl), (Nat.le_of_ble_eq_true rfl)⟩ ⟨(Nat.le_of_ble_eq_true rfl), (Nat.le_of_ble_eq_true rfl)⟩) (fun _ h_55 => ?_)
                refine g_goto C 66 dX5_itemHere_58 rfl ?_
                refine g_sub [2] (lv' := [(0, .ref (a 0))]) rfl ?_
                exact J_66w ((FB (m_tape v) n (EN (m_tape v) n f))) ((m_s v)) (nx2_le hf) (by unfold itR; rw [if_neg (show ¬ kiN (m_tape v) n f < 6 by omega)]; rw [if_pos (show lwN (m_tape v) n f < 4 by omega)]; rw [if_neg p_27]) (fun _ _ => rfl)
              · refine g_bipush C 99 dX5_itemHere_48 (by decide) ?_
                refine g_goto C 55 dX5_itemHere_50 rfl ?_
                refine g_topci (tLM.getD (lwN (m_tape v) n f) 0) (((lw_hi _ (by omega)).1 (by omega)).symm) ?_
                refine g_callAv C (rd_V C (k_numN l D q tt a v n (FB (m_tape v) n (EN (m_tape v) n f)) (nI (3 + (lwN (m_tape v) n f))) (tLL.getD (lwN (m_tape v) n f) 0) (tLM.getD (lwN (m_tape v) n f) 0) (by first | assumption | omega) (by first | assumption | omega) (by first | assumption | omega) (nx2_le hf) p_27) gX5_itemHere_X5_numberTo rfl rfl rfl 3 ok_X5_numberTo rfl 0 rfl rfl (rest := []) rfl rfl (Nat.le_of_ble_eq_true rfl) dX5_itemHere_55 ⟨(Nat.le_of_ble_eq_true rfl), (Nat.le_of_ble_eq_true rfl)⟩ ⟨(Nat.le_of_ble_eq_true rfl), (Nat.le_of_ble_eq_true rfl)⟩) (fun _ h_55 => ?_)
                refine g_goto C 66 dX5_itemHere_58 rfl ?_
                refine g_sub [2] (lv' := [(0, .ref (a 0))]) rfl ?_
                exact J_66w ((FB (m_tape v) n (EN (m_tape v) n f))) ((m_s v)) (nx2_le hf) (by unfold itR; rw [if_neg (show ¬ kiN (m_tape v) n f < 6 by omega)]; rw [if_pos (show lwN (m_tape v) n f < 4 by omega)]; rw [if_neg p_27]) (fun _ _ => rfl)
            · refine g_iconst C 1 dX5_itemHere_37 (by decide) ?_
              refine g_goto C 42 dX5_itemHere_38 rfl ?_
              refine g_topci (tLL.getD (lwN (m_tape v) n f) 0) (((lw_lo _ (by omega)).1 (by omega)).symm) ?_
              refine g_iloadn C dX5_itemHere_42 0 rfl rfl ?_
              refine g_bipush C 6 dX5_itemHere_43 (by decide) ?_
              refine g_icmpN_ne C 53 ((3 + (lwN (m_tape v) n f))) (6) dX5_itemHere_45 rfl (by omega) (by omega) (fun c_45 => ?_) (fun c_45 => ?_)
              · refine g_bipush C 9 dX5_itemHere_53 (by decide) ?_
                refine g_topci (tLM.getD (lwN (m_tape v) n f) 0) (((lw_hi _ (by omega)).2 (by omega)).symm) ?_
                refine g_callAv C (rd_V C (k_numN l D q tt a v n (FB (m_tape v) n (EN (m_tape v) n f)) (nI (3 + (lwN (m_tape v) n f))) (tLL.getD (lwN (m_tape v) n f) 0) (tLM.getD (lwN (m_tape v) n f) 0) (by first | assumption | omega) (by first | assumption | omega) (by first | assumption | omega) (nx2_le hf) p_27) gX5_itemHere_X5_numberTo rfl rfl rfl 3 ok_X5_numberTo rfl 0 rfl rfl (rest := []) rfl rfl (Nat.le_of_ble_eq_true rfl) dX5_itemHere_55 ⟨(Nat.le_of_ble_eq_true rfl), (Nat.le_of_ble_eq_true rfl)⟩ ⟨(Nat.le_of_ble_eq_true rfl), (Nat.le_of_ble_eq_true rfl)⟩) (fun _ h_55 => ?_)
                refine g_goto C 66 dX5_itemHere_58 rfl ?_
                refine g_sub [2] (lv' := [(0, .ref (a 0))]) rfl ?_
                exact J_66w ((FB (m_tape v) n (EN (m_tape v) n f))) ((m_s v)) (nx2_le hf) (by unfold itR; rw [if_neg (show ¬ kiN (m_tape v) n f < 6 by omega)]; rw [if_pos (show lwN (m_tape v) n f < 4 by omega)]; rw [if_neg p_27]) (fun _ _ => rfl)
              · refine g_bipush C 99 dX5_itemHere_48 (by decide) ?_
                refine g_goto C 55 dX5_itemHere_50 rfl ?_
                refine g_topci (tLM.getD (lwN (m_tape v) n f) 0) (((lw_hi _ (by omega)).1 (by omega)).symm) ?_
                refine g_callAv C (rd_V C (k_numN l D q tt a v n (FB (m_tape v) n (EN (m_tape v) n f)) (nI (3 + (lwN (m_tape v) n f))) (tLL.getD (lwN (m_tape v) n f) 0) (tLM.getD (lwN (m_tape v) n f) 0) (by first | assumption | omega) (by first | assumption | omega) (by first | assumption | omega) (nx2_le hf) p_27) gX5_itemHere_X5_numberTo rfl rfl rfl 3 ok_X5_numberTo rfl 0 rfl rfl (rest := []) rfl rfl (Nat.le_of_ble_eq_true rfl) dX5_itemHere_55 ⟨(Nat.le_of_ble_eq_true rfl), (Nat.le_of_ble_eq_true rfl)⟩ ⟨(Nat.le_of_ble_eq_true rfl), (Nat.le_of_ble_eq_true rfl)⟩) (fun _ h_55 => ?_)
                refine g_goto C 66 dX5_itemHere_58 rfl ?_
                refine g_sub [2] (lv' := [(0, .ref (a 0))]) rfl ?_
                exact J_66w ((FB (m_tape v) n (EN (m_tape v) n f))) ((m_s v)) (nx2_le hf) (by unfold itR; rw [if_neg (show ¬ kiN (m_tape v) n f < 6 by omega)]; rw [if_pos (show lwN (m_tape v) n f < 4 by omega)]; rw [if_neg p_27]) (fun _ _ => rfl)
      · exfalso
        exact c_11 (by decide)
  · refine g_aloadn C dX5_itemHere_0 0 rfl rfl ?_
    refine g_callAi C (rd_V C (k_X5_kindHere l D q tt a ((m_s v), (m_held v), (m_aside v), (m_before v), (m_untried v), (m_isHeld v), (m_tape v), (m_taped v), (m_token v), (m_from v), (m_to v), (m_value v), 0, (m_heard v), (m_isMoved v), (m_rows v), (m_rowN v), (m_sortOf v), (m_sizeOf v), (m_numbers v), (m_holdsWhat v), (m_holdsWhich v), (m_holdsMany v), (m_bodies v), (m_ran v), (m_actKind v), (m_actN v), (m_actA v), (m_isParted v)) n f (by first | assumption | omega) (by first | assumption | omega) (by first | assumption | omega) hf) gX5_itemHere_X5_kindHere rfl rfl rfl 0 ok_X5_kindHere rfl 0 rfl rfl (rest := []) rfl rfl (Nat.le_of_ble_eq_true rfl) dX5_itemHere_1 ⟨(Nat.le_of_ble_eq_true rfl), (Nat.le_of_ble_eq_true rfl)⟩ ⟨(Nat.le_of_ble_eq_true rfl), (Nat.le_of_ble_eq_true rfl)⟩) (fun r_1 _ h_1 => ?_)
    obtain rfl := h_1
    refine g_wsc (mw q a ((m_s v), (m_held v), (m_aside v), (m_before v), (m_untried v), (m_isHeld v), (m_tape v), (m_taped v), (nI (kdT (m_tape v) n f)), (nI f), (nI (EN (m_tape v) n f)), (vlT (m_tape v) n f), 0, (m_heard v), (m_isMoved v), (m_rows v), (m_rowN v), (m_sortOf v), (m_sizeOf v), (m_numbers v), (m_holdsWhat v), (m_holdsWhich v), (m_holdsMany v), (m_bodies v), (m_ran v), (m_actKind v), (m_actN v), (m_actA v), (m_isParted v))) rfl ?_
    refine g_topci (kiT (m_tape v) n f) rfl ?_
    refine g_topci (nI (kiN (m_tape v) n f)) (if_neg p_0) ?_
    refine g_istoren C [(1, .int (nI (kiN (m_tape v) n f))), (0, .ref (a 0))] dX5_itemHere_4 rfl (by decide) rfl ?_
    refine g_aloadn C dX5_itemHere_5 1 rfl rfl ?_
    refine g_callAi C (rd_V C (k_X5_lawHere l D q tt a ((m_s v), (m_held v), (m_aside v), (m_before v), (m_untried v), (m_isHeld v), (m_tape v), (m_taped v), (m_token v), (m_from v), (m_to v), (m_value v), 0, (m_heard v), (m_isMoved v), (m_rows v), (m_rowN v), (m_sortOf v), (m_sizeOf v), (m_numbers v), (m_holdsWhat v), (m_holdsWhich v), (m_holdsMany v), (m_bodies v), (m_ran v), (m_actKind v), (m_actN v), (m_actA v), (m_isParted v)) n f (by first | assumption | omega) (by first | assumption | omega) (by first | assumption | omega) hf) gX5_itemHere_X5_lawHere rfl rfl rfl 0 ok_X5_lawHere rfl 0 rfl rfl (rest := []) rfl rfl (Nat.le_of_ble_eq_true rfl) dX5_itemHere_6 ⟨(Nat.le_of_ble_eq_true rfl), (Nat.le_of_ble_eq_true rfl)⟩ ⟨(Nat.le_of_ble_eq_true rfl), (Nat.le_of_ble_eq_true rfl)⟩) (fun r_6 _ h_6 => ?_)
    obtain rfl := h_6
    refine g_wsc (mw q a ((m_s v), (m_held v), (m_aside v), (m_before v), (m_untried v), (m_isHeld v), (m_tape v), (m_taped v), (nI (kdT (m_tape v) n f)), (nI f), (nI (EN (m_tape v) n f)), (vlT (m_tape v) n f), 0, (m_heard v), (m_isMoved v), (m_rows v), (m_rowN v), (m_sortOf v), (m_sizeOf v), (m_numbers v), (m_holdsWhat v), (m_holdsWhich v), (m_holdsMany v), (m_bodies v), (m_ran v), (m_actKind v), (m_actN v), (m_actA v), (m_isParted v))) rfl ?_
    refine g_topci (lwT (m_tape v) n f) rfl ?_
    refine g_istoren C [(2, .int (lwT (m_tape v) n f)), (1, .int (nI (kiN (m_tape v) n f))), (0, .ref (a 0))] dX5_itemHere_9 rfl (by decide) rfl ?_
    refine g_iloadn C dX5_itemHere_10 1 rfl rfl ?_
    refine g_if_lt C 22 dX5_itemHere_11 rfl (fun c_11 => ?_) (fun c_11 => ?_)
    · exfalso
      exact absurd c_11 (nI_pos (by omega))
    · refine g_aloadn C dX5_itemHere_14 2 rfl rfl ?_
      refine g_iloadn C dX5_itemHere_15 1 rfl rfl ?_
      refine g_callAv C (rd_V C (k_X5_personHere l D q tt a v n f N (nI (kiN (m_tape v) n f)) (by first | assumption | omega) (by first | assumption | omega) (by first | assumption | omega) (by first | assumption | omega) hN0 h8) gX5_itemHere_X5_personHere rfl rfl rfl 1 ok_X5_personHere rfl 0 rfl rfl (rest := []) rfl rfl (Nat.le_of_ble_eq_true rfl) dX5_itemHere_16 ⟨(Nat.le_of_ble_eq_true rfl), (Nat.le_of_ble_eq_true rfl)⟩ ⟨(Nat.le_of_ble_eq_true rfl), (Nat.le_of_ble_eq_true rfl)⟩) (fun u_16 h_16 => ?_)
      by_cases p_66 : (pnR (m_tape v) n N f).1 = 0
      · refine g_wsc (mw q a (u_16, (m_held v), (m_aside v), (m_before v), (m_untried v), (m_isHeld v), (m_tape v), (m_taped v), (nI (kdT (m_tape v) n (pnR (m_tape v) n N f).2.1)), (nI (pnR (m_tape v) n N f).2.1), (nI (EN (m_tape v) n (pnR (m_tape v) n N f).2.1)), (vlT (m_tape v) n (pnR (m_tape v) n N f).2.1), 0, (m_heard v), (m_isMoved v), (m_rows v), (m_rowN v), (m_sortOf v), (m_sizeOf v), (m_numbers v), (m_holdsWhat v), (m_holdsWhich v), (m_holdsMany v), (m_bodies v), (m_ran v), (m_actKind v), (m_actN v), (m_actA v), (m_isParted v))) (by rw [p_66]) ?_
        refine g_goto C 66 dX5_itemHere_19 rfl ?_
        refine g_sub [2] (lv' := [(0, .ref (a 0))]) rfl ?_
        exact J_66ok ((pnR (m_tape v) n N f).2.1) (u_16) (N + 1) hpG.2.2.1 (by rw [h_16.1 p_66]; unfold itR; rw [if_pos (show kiN (m_tape v) n f < 6 by omega)]; rw [if_pos p_66]) h_16.2
      · refine g_wsc (mw q a (u_16, (m_held v), (m_aside v), (m_before v), (m_untried v), (m_isHeld v), (m_tape v), (m_taped v), (nI (kdT (m_tape v) n (pnR (m_tape v) n N f).2.1)), (nI (pnR (m_tape v) n N f).2.1), (nI (EN (m_tape v) n (pnR (m_tape v) n N f).2.1)), (vlT (m_tape v) n (pnR (m_tape v) n N f).2.1), 1, (m_heard v), (m_isMoved v), (m_rows v), (m_rowN v), (m_sortOf v), (m_sizeOf v), (m_numbers v), (m_holdsWhat v), (m_holdsWhich v), (m_holdsMany v), (m_bodies v), (m_ran v), (m_actKind v), (m_actN v), (m_actA v), (m_isParted v))) (by rw [hpG.1.resolve_left p_66]) ?_
        refine g_goto C 66 dX5_itemHere_19 rfl ?_
        refine g_sub [2] (lv' := [(0, .ref (a 0))]) rfl ?_
        exact J_66w ((pnR (m_tape v) n N f).2.1) (u_16) hpG.2.2.1 (by unfold itR; rw [if_pos (show kiN (m_tape v) n f < 6 by omega)]; rw [if_neg p_66]) h_16.2

