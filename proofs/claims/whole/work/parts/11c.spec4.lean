theorem Gd_set {S : Nat → Int32} {N : Nat} (h : Gd S N) (x y : Int32) : Gd (S_set S x y) N := by
  unfold S_set
  split
  · rename_i hc
    obtain ⟨h0, h1, h2⟩ := hc
    obtain ⟨j, hj, ej, ec⟩ := ix_le (n := 3) (by omega) h0
    rw [ec]
    refine h.up (by omega) (fun e => ?_) (fun e => ?_) (fun e => ?_) (fun o _ e => by omega) (fun o _ e => by omega) (fun o _ e => by omega)
    · have e2 : j = 2 := by omega
      subst e2
      obtain ⟨k, hk, ek, -⟩ := ix_le (x := y) (n := 9) (by omega) ⟨by rcases h1 with q | q; exact absurd (ej.symm.trans q.1) (by decide); exact q.2, by rcases h2 with q | q; exact absurd (ej.symm.trans q.1) (by decide); exact q.2⟩
      exact ⟨k, hk, ek⟩
    · have e2 : j = 1 := by omega
      subst e2
      have hy1 : (1 : Int32) ≤ y := by rcases h1 with q | q; exact q.2; exact absurd ej q.1
      obtain ⟨k, hk, ek, -⟩ := ix_le (x := y) (n := 9) (by omega) ⟨Int32.le_trans (by decide) hy1, by rcases h2 with q | q; exact absurd (ej.symm.trans q.1) (by decide); exact q.2⟩
      rw [ek] at hy1
      exact ⟨k, (nI_leI (a := 1) (by omega) (by omega)).mp hy1, hk, ek⟩
    · have e2 : j = 3 := by omega
      subst e2
      obtain ⟨k, hk, ek, -⟩ := ix_le (x := y) (n := 99) (by omega) ⟨by rcases h1 with q | q; exact absurd (ej.symm.trans q.1) (by decide); exact q.2, by rcases h2 with q | q; exact q.2; exact absurd ej q.1⟩
      exact ⟨k, hk, ek⟩
  · exact h
theorem set_tab {x y : Int32} {j : Nat} (hj : j ≤ 3) (ej : x = nI j) : (tLL.getD j 0 ≤ y ∧ y ≤ tLM.getD j 0) ↔ (((x = 1 ∧ 1 ≤ y) ∨ (¬ x = 1 ∧ 0 ≤ y)) ∧ ((x = 3 ∧ y ≤ 99) ∨ (¬ x = 3 ∧ y ≤ 9))) := by
  have h4 : j = 0 ∨ j = 1 ∨ j = 2 ∨ j = 3 := by omega
  rcases h4 with rfl | rfl | rfl | rfl
  · have a : ¬ x = 1 := by rw [ej]; decide
    have b : ¬ x = 3 := by rw [ej]; decide
    simp [a, b, tLL, tLM]
  · have a : x = 1 := by rw [ej]; rfl
    have b : ¬ x = 3 := by rw [ej]; decide
    simp [a, tLL, tLM]
  · have a : ¬ x = 1 := by rw [ej]; decide
    have b : ¬ x = 3 := by rw [ej]; decide
    simp [a, b, tLL, tLM]
  · have a : ¬ x = 1 := by rw [ej]; decide
    have b : x = 3 := by rw [ej]; rfl
    simp [b, tLL, tLM]
theorem Gd_pride {S : Nat → Int32} {N : Nat} (h : Gd S N) (x y : Int32) : Gd (S_pride S x y) N := by
  unfold S_pride; split
  · exact h.w1
  · exact h
theorem Gd_move {S : Nat → Int32} {N : Nat} (h : Gd S N) (x y : Int32) : Gd (S_move S x y) N := by
  unfold S_move; split
  · rename_i hc
    obtain ⟨k, hk, ek, -⟩ := ix_lt (x := y) (n := 8) (by omega) hc.2
    rw [ek]
    exact h.w3 (by omega)
  · exact h
theorem Gd_clap {S : Nat → Int32} {N : Nat} (h : Gd S N) (x y : Int32) : Gd (S_clap S x y) N := by
  unfold S_clap; split
  · rename_i hc
    obtain ⟨k, hk, ek, -⟩ := ix_le (x := y) (n := 1) (by omega) hc.2
    rw [ek]
    have : k = 0 ∨ k = 1 := by omega
    rcases this with rfl | rfl
    · exact h.c (Or.inl rfl)
    · exact h.c (Or.inr rfl)
  · exact h
theorem Gd_mind {S : Nat → Int32} {N : Nat} (h : Gd S N) (x y z : Int32) : Gd (S_mind S x y z) N := by
  unfold S_mind; split
  · rename_i hc
    obtain ⟨k, hk, ek, -⟩ := ix_le (x := y) (n := 5) (by omega) hc.2.1
    rw [ek]
    exact h.w2.w0 hk
  · exact h
theorem Gd_minutes {S : Nat → Int32} {N : Nat} (h : Gd S N) (x : Int32) : Gd (S_minutes S N x) N := by
  unfold S_minutes; split
  · exact h.gos _
  · exact h
theorem cm_at {S : Nat → Int32} {N : Nat} {k p e r : Int32} {o j : Nat} (ho : o < N) (hj : j < 5) : cmS S N k p e r (7 + 5 * o + j) = S (7 + 5 * o + j) := by
  unfold cmS
  rw [pk_un (by omega), pk_un (by omega), pk_un (by omega), pk_un (by omega), pk_un (by omega), pk_un (by omega)]
theorem cm_lo {S : Nat → Int32} {N : Nat} {k p e r : Int32} {i : Nat} (h0 : i ≠ 0) (hi : i < 7) : cmS S N k p e r i = S i := by
  unfold cmS
  rw [pk_un h0, pk_un (by omega), pk_un (by omega), pk_un (by omega), pk_un (by omega), pk_un (by omega)]
theorem cm_K {S : Nat → Int32} {N : Nat} {k p e r : Int32} : sK (cmS S N k p e r) N = k := by
  unfold sK cmS
  rw [pk_un (by omega), pk_un (by omega), pk_un (by omega), pk_un (by omega), pk_un (by omega)]
  exact pk_us
theorem cm_P {S : Nat → Int32} {N : Nat} {k p e r : Int32} : sP (cmS S N k p e r) N = p := by
  unfold sP cmS
  rw [pk_un (by omega), pk_un (by omega), pk_un (by omega), pk_un (by omega)]
  exact pk_us
theorem cm_E {S : Nat → Int32} {N : Nat} {k p e r : Int32} : sE (cmS S N k p e r) N = e := by
  unfold sE cmS
  rw [pk_un (by omega), pk_un (by omega), pk_un (by omega)]
  exact pk_us
theorem cm_R {S : Nat → Int32} {N : Nat} {k p e r : Int32} : sR (cmS S N k p e r) N = r := by
  unfold sR cmS
  rw [pk_un (by omega), pk_un (by omega)]
  exact pk_us
theorem cm_C {S : Nat → Int32} {N : Nat} {k p e r : Int32} : sC (cmS S N k p e r) N = 0 := by
  unfold sC cmS
  rw [pk_un (by omega)]
  exact pk_us
theorem cm_N {S : Nat → Int32} {N : Nat} {k p e r : Int32} : cmS S N k p e r 0 = nI (N + 1) := pk_us
theorem Gd_cm {S : Nat → Int32} {N : Nat} (h : Gd S N) (h8 : N < 8) {k r : Nat} {p e : Int32} (hk : k ≤ 5) (hr : r ≤ 7) : Gd (cmS S N (nI k) p e (nI r)) (N + 1) := by
  obtain ⟨g0, -, g5, g4, g6, go⟩ := h
  refine ⟨cm_N, by omega, by rw [cm_lo (by omega) (by omega)]; exact g5, by rw [cm_lo (by omega) (by omega)]; exact g4, by rw [cm_lo (by omega) (by omega)]; exact g6, fun o ho => ?_⟩
  by_cases q : o = N
  · subst q
    rw [cm_K, cm_R, cm_C]
    exact ⟨⟨k, hk, rfl⟩, ⟨r, hr, rfl⟩, Or.inl rfl⟩
  · have hl : o < N := by omega
    have := go o hl
    unfold sK sR sC at *
    rw [cm_at hl (by omega), cm_at hl (by omega), cm_at hl (by omega)]
    exact this
theorem clN_cm {S : Nat → Int32} {N : Nat} {k p e r : Int32} : ∀ n, n ≤ N → clN (cmS S N k p e r) n = clN S n
  | 0, _ => rfl
  | n + 1, h => by
    rw [clN, clN, clN_cm n (by omega)]
    unfold clB sC
    rw [cm_at (by omega) (by omega)]
theorem lt_top : ∀ n, n < 8 → ∀ c, c < 2 ^ n → ltC (nI c) (nI n) 0 = nI c := by decide +kernel
theorem hr_cm {S : Nat → Int32} {N : Nat} {h u : HC} {k p e r : Int32} (hH : HR S N h) (h8 : N < 8) (eL : hL u = hL h) (eK : hK u = upd (hK h) N k) (eP : hP u = upd (hP h) N p) (eE : hE u = upd (hE h) N e) (eR : hR u = upd (hR h) N r) (eN : hN u = nI (N + 1)) (eC : hC u = ltC (hC h) (nI N) 0) (eM : hM u = hM h) (eZ : hZ u = hZ h) : HR (cmS S N k p e r) (N + 1) u := by
  obtain ⟨a, b, c, d, f, g⟩ := hH
  refine ⟨fun i hi => ?_, fun o ho => ?_, eN.trans cm_N.symm, ?_, ?_, ?_⟩
  · rw [eL, cm_lo (by omega) (by omega)]; exact a i hi
  · by_cases q : o = N
    · subst q
      rw [cm_K, cm_P, cm_E, cm_R, eK, eP, eE, eR]
      exact ⟨pk_us, pk_us, pk_us, pk_us⟩
    · have hl : o < N := by omega
      have := b o hl
      rw [eK, eP, eE, eR, pk_un q, pk_un q, pk_un q, pk_un q]
      unfold sK sP sE sR at *
      rw [cm_at hl (by omega), cm_at hl (by omega), cm_at hl (by omega), cm_at hl (by omega)]
      exact this
  · rw [eM, cm_lo (by omega) (by omega)]; exact d
  · rw [eZ, cm_lo (by omega) (by omega)]; exact f
  · rw [eC, g]
    unfold clS
    rw [lt_top N h8 _ (clN_lt S N), clN, clN_cm N (Nat.le_refl N)]
    have : clB (cmS S N k p e r) N = 0 := by unfold clB; rw [cm_C]; rfl
    rw [this, Nat.zero_mul, Nat.add_zero]
