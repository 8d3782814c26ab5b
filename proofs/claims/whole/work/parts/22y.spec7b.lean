theorem rp_0 {S : Nat → Int32} {N j : Nat} : rpS S N j 0 = sP S j := if_pos rfl
theorem rp_1 {S : Nat → Int32} {N j : Nat} : rpS S N j 1 = sC S j := by unfold rpS; rw [if_neg (by omega), if_pos rfl]
theorem rp_2 {S : Nat → Int32} {N j : Nat} : rpS S N j 2 = clS S N := by unfold rpS; rw [if_neg (by omega), if_neg (by omega)]
theorem pr_step {S R : Nat → Int32} {N j i : Nat} : upd (upd (upd (prR S N j R i) (3 * i) (gosS S N (i + 1) (7 + 5 * j + 1))) (3 * i + 1) (gosS S N (i + 1) (7 + 5 * j + 4))) (3 * i + 2) (clS (gosS S N (i + 1)) N) = prR S N j R (i + 1) := by
  rw [prR, rp_0, rp_1, rp_2]
  unfold sP sC
  simp only [Nat.add_zero]
