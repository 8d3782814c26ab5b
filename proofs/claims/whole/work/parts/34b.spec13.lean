/-! texts as constants -/
theorem sx_len : ∀ i, i < 14 → nI (txL.getD i 0) >>> ((0 : Int32) &&& 31) = nI (txL.getD i 0) := by decide +kernel
theorem sx_ch : ∀ i, i < 14 → ∀ k, k < txL.getD i 0 → (((txB.getD i []).getD k 0 &&& 255).toUInt32 % 65536).toInt32 = (txB.getD i []).getD k 0 := by decide +kernel
theorem sx_asc : ∀ i, i < 14 → ∀ k, k < txL.getD i 0 → ∃ m, m < 128 ∧ (txB.getD i []).getD k 0 = nI m := by
  have h : ∀ i, i < 14 → ∀ k, k < txL.getD i 0 → ((txB.getD i []).getD k 0).toNatClampNeg < 128 ∧ (txB.getD i []).getD k 0 = nI ((txB.getD i []).getD k 0).toNatClampNeg := by decide +kernel
  exact fun i hi k hk => ⟨_, (h i hi k hk).1, (h i hi k hk).2⟩
theorem sx_nar : ∀ i, i < 14 → ∀ k, k < txL.getD i 0 → narrow .char (.int ((txB.getD i []).getD k 0)) = .int ((txB.getD i []).getD k 0) := by
  intro i hi k hk
  obtain ⟨m, hm, e⟩ := sx_asc i hi k hk
  rw [e]
  exact (pk_charN (by omega)).1
/-- a byte as the class holds it -/
def sbB (m : Nat) : Int32 := if m < 128 then nI m else nI m - 256
abbrev TPR (f u : Nat → Int32) (n : Nat) : Prop := ∀ k, k < n → ∃ m_, m_ < 256 ∧ u k = nI m_ ∧ f k = sbB m_
theorem TPR.u {f u : Nat → Int32} {n : Nat} (h : TPR f u n) : TPU u n := fun k hk => by
  obtain ⟨m, hm, e, -⟩ := h k hk
  exact ⟨m, hm, e⟩
theorem sb_A : ∀ m, m < 256 → ((97 ≤ sbB m ∧ sbB m ≤ 122) ↔ (97 ≤ nI m ∧ nI m ≤ 122)) ∧ ((48 ≤ sbB m ∧ sbB m ≤ 57) ↔ (48 ≤ nI m ∧ nI m ≤ 57)) ∧ (sbB m = 32 ↔ nI m = 32) ∧ (sbB m = 59 ↔ nI m = 59) ∧ (m < 128 → sbB m = nI m) := by decide +kernel
theorem sb_eq : ∀ m, m < 256 → ∀ d, d < 128 → (sbB m = nI d ↔ nI m = nI d) := by decide +kernel
theorem tp_A {f u : Nat → Int32} {n k : Nat} (h : TPR f u n) (hk : k < n) : (97 ≤ f k ∧ f k ≤ 122) ↔ (97 ≤ u k ∧ u k ≤ 122) := by
  obtain ⟨m, hm, e1, e2⟩ := h k hk
  rw [e1, e2]; exact (sb_A m hm).1
theorem tp_D {f u : Nat → Int32} {n k : Nat} (h : TPR f u n) (hk : k < n) : (48 ≤ f k ∧ f k ≤ 57) ↔ (48 ≤ u k ∧ u k ≤ 57) := by
  obtain ⟨m, hm, e1, e2⟩ := h k hk
  rw [e1, e2]; exact (sb_A m hm).2.1
theorem tp_32 {f u : Nat → Int32} {n k : Nat} (h : TPR f u n) (hk : k < n) : f k = 32 ↔ u k = 32 := by
  obtain ⟨m, hm, e1, e2⟩ := h k hk
  rw [e1, e2]; exact (sb_A m hm).2.2.1
theorem tp_59 {f u : Nat → Int32} {n k : Nat} (h : TPR f u n) (hk : k < n) : f k = 59 ↔ u k = 59 := by
  obtain ⟨m, hm, e1, e2⟩ := h k hk
  rw [e1, e2]; exact (sb_A m hm).2.2.2.1
theorem tp_ch {f u : Nat → Int32} {n k i j : Nat} (h : TPR f u n) (hk : k < n) (hi : i < 14) (hj : j < txL.getD i 0) : f k = (txB.getD i []).getD j 0 ↔ u k = (txB.getD i []).getD j 0 := by
  obtain ⟨m, hm, e1, e2⟩ := h k hk
  obtain ⟨d, hd, e3⟩ := sx_asc i hi j hj
  rw [e1, e2, e3]; exact sb_eq m hm d hd
theorem tp_dg {f u : Nat → Int32} {n k : Nat} (h : TPR f u n) (hk : kdT u n k = 2) : f k = u k := by
  obtain ⟨hn, d, hd, e⟩ := kd_2 hk
  obtain ⟨m, hm, e1, e2⟩ := h k hn
  have h1 : m = 48 + d := (nI_eq (by omega) (by omega)).mp (e1.symm.trans e)
  rw [e1, e2]; exact (sb_A m hm).2.2.2.2 (by omega)
/-! the reference's way to the next token -/
theorem kd_3 {u : Nat → Int32} {n i : Nat} (h0 : ¬ n ≤ i) (h1 : ¬ (i < n ∧ kdT u n i = 1)) (h2 : ¬ (i < n ∧ kdT u n i = 2)) : kdT u n i = 3 := by
  have a := kd_le u n i
  have b : ¬ kdT u n i = 0 := fun z => h0 (kd_0.mp z)
  have c1 := fun z => h1 ⟨by omega, z⟩
  have c2 := fun z => h2 ⟨by omega, z⟩
  omega
def ntA (u : Nat → Int32) (n f j : Nat) : Prop := (kdT u n f = 1 ∧ f ≤ j ∧ EN u n f = rnK u n 1 (n - j) j) ∨ (¬ kdT u n f = 1 ∧ j = f)
def ntD (u : Nat → Int32) (n f j : Nat) (w : Int32) : Prop := (kdT u n f = 2 ∧ f ≤ j ∧ EN u n f = rnK u n 2 (n - j) j ∧ w = vlN u f (j - f)) ∨ (¬ kdT u n f = 2 ∧ w = 0 ∧ ((kdT u n f = 3 ∧ j = f) ∨ (¬ kdT u n f = 3 ∧ j = EN u n f)))
theorem nt_A0 {u : Nat → Int32} {n f : Nat} : ntA u n f f := by
  by_cases h : kdT u n f = 1
  · refine Or.inl ⟨h, Nat.le_refl f, ?_⟩
    unfold EN
    rw [if_neg (by omega), h]
  · exact Or.inr ⟨h, rfl⟩
theorem nt_A1 {u : Nat → Int32} {n f j : Nat} (hA : ntA u n f j) (h1 : kdT u n f = 1) (hc : j < n ∧ kdT u n j = 1) : ntA u n f (j + 1) := by
  rcases hA with ⟨_, h2, h3⟩ | ⟨h2, _⟩
  · exact Or.inl ⟨h1, by omega, h3.trans (rk_go hc.1 hc.2)⟩
  · exact absurd h1 h2
theorem nt_D0 {u : Nat → Int32} {n f j : Nat} (hA : ntA u n f j) (h : ¬ kdT u n f = 1 ∨ ¬ (j < n ∧ kdT u n j = 1)) : ntD u n f j 0 := by
  rcases hA with ⟨h1, h2, h3⟩ | ⟨h1, h2⟩
  · have hs : rnK u n 1 (n - j) j = j := rk_st (h.resolve_left (fun z => z h1)) _
    exact Or.inr ⟨by omega, rfl, Or.inr ⟨by omega, by rw [h3, hs]⟩⟩
  · subst h2
    by_cases e2 : kdT u n j = 2
    · refine Or.inl ⟨e2, Nat.le_refl j, ?_, by rw [Nat.sub_self]; rfl⟩
      unfold EN
      rw [if_neg (by omega), e2]
    · refine Or.inr ⟨e2, rfl, ?_⟩
      by_cases e3 : kdT u n j = 3
      · exact Or.inl ⟨e3, rfl⟩
      · refine Or.inr ⟨e3, ?_⟩
        have hk := kd_le u n j
        have e0 : kdT u n j = 0 := by omega
        unfold EN
        rw [if_neg e3, rk_st (fun z => by have := kd_0.mp e0; omega)]
theorem nt_D1 {u : Nat → Int32} {n f j : Nat} {w : Int32} (hD : ntD u n f j w) (h2 : kdT u n f = 2) (hc : j < n ∧ kdT u n j = 2) (hw : ¬ 999 < w) : ntD u n f (j + 1) (10 * w + byT u n j - 48) := by
  rcases hD with ⟨_, h3, h4, h5⟩ | ⟨h3, _⟩
  · refine Or.inl ⟨h2, by omega, h4.trans (rk_go hc.1 hc.2), ?_⟩
    rw [show j + 1 - f = (j - f) + 1 by omega, vlN, ← h5, if_neg hw, by_in hc.1, show f + (j - f) = j by omega]
  · exact absurd h2 h3
theorem nt_D2 {u : Nat → Int32} {n f j : Nat} {w : Int32} (hD : ntD u n f j w) (h2 : kdT u n f = 2) (hc : j < n ∧ kdT u n j = 2) (hw : 999 < w) : ntD u n f (j + 1) w := by
  rcases hD with ⟨_, h3, h4, h5⟩ | ⟨h3, _⟩
  · refine Or.inl ⟨h2, by omega, h4.trans (rk_go hc.1 hc.2), ?_⟩
    rw [show j + 1 - f = (j - f) + 1 by omega, vlN, ← h5, if_pos hw]
  · exact absurd h2 h3
theorem nt_to1 {u : Nat → Int32} {n f j : Nat} {w : Int32} (hD : ntD u n f j w) (h3 : kdT u n f = 3) : nI j + 1 = nI (EN u n f) := by
  have e : EN u n f = f + 1 := by unfold EN; rw [if_pos h3]
  rcases hD with ⟨h2, _⟩ | ⟨_, _, h4 | h4⟩
  · omega
  · rw [e, h4.2]; exact nI_add f 1
  · exact absurd h3 h4.1
theorem nt_to0 {u : Nat → Int32} {n f j : Nat} {w : Int32} (hD : ntD u n f j w) (h3 : kdT u n f ≤ 2) (hx : ¬ kdT u n f = 2 ∨ ¬ (j < n ∧ kdT u n j = 2)) : nI j + 0 = nI (EN u n f) := by
  have e0 : nI j + 0 = nI j := by simp
  rw [e0]
  rcases hD with ⟨h2, _, h5, _⟩ | ⟨_, _, h4 | h4⟩
  · rw [h5, rk_st (hx.resolve_left (fun z => z h2))]
  · omega
  · rw [h4.2]
theorem nt_vl {u : Nat → Int32} {n f j : Nat} {w : Int32} (hD : ntD u n f j w) (hx : ¬ kdT u n f = 2 ∨ ¬ (j < n ∧ kdT u n j = 2)) : w = vlT u n f := by
  unfold vlT
  rcases hD with ⟨h2, _, h5, h6⟩ | ⟨h2, h3, _⟩
  · rw [if_pos h2, h5, rk_st (hx.resolve_left (fun z => z h2)), h6]
  · rw [if_neg h2, h3]
theorem en_dg {u : Nat → Int32} {n f : Nat} (h : kdT u n f = 2) : ∀ j, f ≤ j → j < EN u n f → kdT u n j = 2 := by
  intro j h1 h2
  unfold EN at h2
  rw [if_neg (by omega), h] at h2
  exact (rk_all _ f j h1 h2).2
theorem nm_next {u : Nat → Int32} {f k : Nat} {l : List Int32} (hm : ∀ j, j < k → u (f + j) = l.getD j 0) (h : u (f + k) = l.getD k 0) : ∀ j, j < k + 1 → u (f + j) = l.getD j 0 := by
  intro j hj
  by_cases e : j = k
  · subst e; exact h
  · exact hm j (by omega)
/-! FEED -/
def fdV (x : Int64) (i : Nat) : Int32 := ((x >>> ((8 * nI i).toInt64 &&& 63)) &&& 255).toInt32
def fdR (u : Nat → Int32) (n : Nat) (x : Int64) : Nat → Nat → Int32
  | 0 => u
  | i + 1 => upd (fdR u n x i) (n + i) (fdV x i)
def R_feed (n : Nat) (y : Int32) : Int32 := if 1 ≤ y ∧ y ≤ 8 then (if n + y.toNatClampNeg ≤ 200 then nI (n + y.toNatClampNeg) else -2) else -1
def T_feed (u : Nat → Int32) (n : Nat) (x : Int64) (y : Int32) : Nat → Int32 := if (1 ≤ y ∧ y ≤ 8) ∧ n + y.toNatClampNeg ≤ 200 then fdR u n x y.toNatClampNeg else u
def N_feed (n : Nat) (y : Int32) : Nat := if (1 ≤ y ∧ y ≤ 8) ∧ n + y.toNatClampNeg ≤ 200 then n + y.toNatClampNeg else n
