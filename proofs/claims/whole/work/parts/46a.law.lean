/-! the law's calls that change more than the house -/
theorem gd_e {S T : Nat → Int32} {N : Nat} (h : Gd S N) (e : ∀ k, k < 47 → T k = S k) : Gd T N := by
  obtain ⟨h0, h1, h2, h3, h4, h5⟩ := h
  refine ⟨(e 0 (by omega)).trans h0, h1, ?_, ?_, ?_, fun o ho => ?_⟩
  · obtain ⟨w, hw, ew⟩ := h2; exact ⟨w, hw, (e 5 (by omega)).trans ew⟩
  · obtain ⟨w, hw, hv, ew⟩ := h3; exact ⟨w, hw, hv, (e 4 (by omega)).trans ew⟩
  · obtain ⟨w, hw, ew⟩ := h4; exact ⟨w, hw, (e 6 (by omega)).trans ew⟩
  · obtain ⟨⟨a1, a2, a3⟩, ⟨b1, b2, b3⟩, c1⟩ := h5 o ho
    have eC : sC T o = sC S o := e (7 + 5 * o + 4) (by omega)
    refine ⟨⟨a1, a2, (e (7 + 5 * o + 0) (by omega)).trans a3⟩, ⟨b1, b2, (e (7 + 5 * o + 3) (by omega)).trans b3⟩, ?_⟩
    rw [eC]
    exact c1
theorem clN_e {S T : Nat → Int32} {N : Nat} (hN : N ≤ 8) (e : ∀ k, k < 47 → T k = S k) : ∀ m, m ≤ N → clN T m = clN S m
  | 0, _ => rfl
  | m + 1, h => by
    have eC : sC T m = sC S m := e (7 + 5 * m + 4) (by omega)
    rw [clN, clN, clN_e hN e m (by omega)]
    unfold clB
    rw [eC]
theorem hrq_e {S T : Nat → Int32} {N : Nat} {h : HC} (hN : N ≤ 8) (r : HR S N h) (e : ∀ k, k < 47 → T k = S k) : HR T N h := by
  obtain ⟨h0, h1, h2, h3, h4, h5⟩ := r
  refine ⟨fun k hk => (h0 k hk).trans (e (3 + k) (by omega)).symm, fun o ho => ?_, h2.trans (e 0 (by omega)).symm, h3.trans (e 1 (by omega)).symm, h4.trans (e 2 (by omega)).symm, ?_⟩
  · obtain ⟨a1, a2, a3, a4⟩ := h1 o ho
    exact ⟨a1.trans (e (7 + 5 * o + 0) (by omega)).symm, a2.trans (e (7 + 5 * o + 1) (by omega)).symm, a3.trans (e (7 + 5 * o + 2) (by omega)).symm, a4.trans (e (7 + 5 * o + 3) (by omega)).symm⟩
  · rw [h5]
    unfold clS
    rw [clN_e hN e N (Nat.le_refl N)]
theorem cp_e {S T : Nat → Int32} : ∀ k, k < 47 → cp47 S T k = S k := fun _ h => cp_in h
theorem cpv {S : Nat → Int32} {rn : Nat} {x y : Int32} (h : rn ≤ 10) : ∃ m, m ≤ 10 ∧ C_prove S (nI rn) x y = nI m := by
  unfold C_prove
  split
  · rename_i hg
    obtain ⟨i, hi, ei, -⟩ := ix_le (n := 10) (by omega) ⟨Int32.le_trans (by decide) hg.2.1, hg.2.2⟩
    exact ⟨i, hi, ei⟩
  · exact ⟨rn, h, rfl⟩
theorem N_feed_le {n : Nat} {y : Int32} (h : n ≤ 200) : N_feed n y ≤ 200 := by
  unfold N_feed
  split
  · rename_i hg
    exact hg.2
  · exact h
