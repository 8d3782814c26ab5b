/-! THE TAPE: u the bytes (0 to 255), n how many; a token is told by where it begins -/
def kdT (u : Nat → Int32) (n i : Nat) : Nat := if n ≤ i then 0 else if 97 ≤ u i ∧ u i ≤ 122 then 1 else if 48 ≤ u i ∧ u i ≤ 57 then 2 else 3
def rnB (u : Nat → Int32) (n : Nat) : Nat → Nat → Nat
  | 0, i => i
  | k + 1, i => if i < n ∧ u i = 32 then rnB u n k (i + 1) else i
def rnK (u : Nat → Int32) (n κ : Nat) : Nat → Nat → Nat
  | 0, i => i
  | k + 1, i => if i < n ∧ kdT u n i = κ then rnK u n κ k (i + 1) else i
/-- where a token begins that is looked for from i on -/
def FB (u : Nat → Int32) (n i : Nat) : Nat := rnB u n (n - i) i
/-- where the token that begins at f ends -/
def EN (u : Nat → Int32) (n f : Nat) : Nat := if kdT u n f = 3 then f + 1 else rnK u n (kdT u n f) (n - f) f
def vlN (u : Nat → Int32) (f : Nat) : Nat → Int32
  | 0 => 0
  | k + 1 => if 999 < vlN u f k then vlN u f k else 10 * vlN u f k + u (f + k) - 48
def vlT (u : Nat → Int32) (n f : Nat) : Int32 := if kdT u n f = 2 then vlN u f (EN u n f - f) else 0
def byT (u : Nat → Int32) (n i : Nat) : Int32 := if i < n then u i else -1
abbrev TPU (u : Nat → Int32) (n : Nat) : Prop := ∀ k, k < n → ∃ m_, m_ < 256 ∧ u k = nI m_
theorem kd_le (u : Nat → Int32) (n i : Nat) : kdT u n i ≤ 3 := by
  unfold kdT
  split
  · omega
  · split
    · omega
    · split <;> omega
theorem kd_b (u : Nat → Int32) (n i : Nat) : kdT u n i < 2 ^ 31 := Nat.lt_of_le_of_lt (kd_le u n i) (by decide)
theorem kd_0 {u : Nat → Int32} {n i : Nat} : kdT u n i = 0 ↔ n ≤ i := by
  unfold kdT
  constructor
  · intro h
    by_cases h1 : n ≤ i
    · exact h1
    · rw [if_neg h1] at h
      split at h
      · omega
      · split at h <;> omega
  · intro h; rw [if_pos h]
theorem rb_go {u : Nat → Int32} {n i : Nat} (h : i < n) (h2 : u i = 32) : rnB u n (n - i) i = rnB u n (n - (i + 1)) (i + 1) := by
  rw [show n - i = (n - (i + 1)) + 1 by omega, rnB, if_pos ⟨h, h2⟩]
theorem rb_st {u : Nat → Int32} {n i : Nat} (h : ¬ (i < n ∧ u i = 32)) : ∀ k, rnB u n k i = i
  | 0 => rfl
  | k + 1 => by rw [rnB, if_neg h]
theorem rk_go {u : Nat → Int32} {n κ i : Nat} (h : i < n) (h2 : kdT u n i = κ) : rnK u n κ (n - i) i = rnK u n κ (n - (i + 1)) (i + 1) := by
  rw [show n - i = (n - (i + 1)) + 1 by omega, rnK, if_pos ⟨h, h2⟩]
theorem rk_st {u : Nat → Int32} {n κ i : Nat} (h : ¬ (i < n ∧ kdT u n i = κ)) : ∀ k, rnK u n κ k i = i
  | 0 => rfl
  | k + 1 => by rw [rnK, if_neg h]
theorem rb_le {u : Nat → Int32} {n : Nat} : ∀ k i, i ≤ n → i ≤ rnB u n k i ∧ rnB u n k i ≤ n
  | 0, i, h => ⟨Nat.le_refl i, h⟩
  | k + 1, i, h => by
    rw [rnB]
    split
    · rename_i h1
      have := rb_le (u := u) (n := n) k (i + 1) (by omega)
      omega
    · exact ⟨Nat.le_refl i, h⟩
theorem rk_le {u : Nat → Int32} {n κ : Nat} : ∀ k i, i ≤ n → i ≤ rnK u n κ k i ∧ rnK u n κ k i ≤ n
  | 0, i, h => ⟨Nat.le_refl i, h⟩
  | k + 1, i, h => by
    rw [rnK]
    split
    · rename_i h1
      have := rk_le (u := u) (n := n) (κ := κ) k (i + 1) (by omega)
      omega
    · exact ⟨Nat.le_refl i, h⟩
theorem rk_all {u : Nat → Int32} {n κ : Nat} : ∀ k i j, i ≤ j → j < rnK u n κ k i → j < n ∧ kdT u n j = κ
  | 0, i, j, h1, h2 => by rw [rnK] at h2; omega
  | k + 1, i, j, h1, h2 => by
    rw [rnK] at h2
    split at h2
    · rename_i h3
      by_cases e : j = i
      · subst e; exact h3
      · exact rk_all (u := u) (n := n) (κ := κ) k (i + 1) j (by omega) h2
    · omega
theorem fb_le {u : Nat → Int32} {n i : Nat} (h : i ≤ n) : i ≤ FB u n i ∧ FB u n i ≤ n := rb_le (n - i) i h
theorem en_le {u : Nat → Int32} {n f : Nat} (h : f ≤ n) : f ≤ EN u n f ∧ EN u n f ≤ n := by
  unfold EN
  split
  · rename_i h3
    have : ¬ n ≤ f := fun z => by rw [kd_0.mpr z] at h3; omega
    omega
  · exact rk_le _ f h
theorem en_lt {u : Nat → Int32} {n f : Nat} (h : ¬ kdT u n f = 0) : f < EN u n f := by
  have hf : f < n := by
    have h9 : ¬ n ≤ f := fun z => h (kd_0.mpr z)
    omega
  unfold EN
  split
  · omega
  · rw [rk_go hf rfl]
    have := rk_le (u := u) (n := n) (κ := kdT u n f) (n - (f + 1)) (f + 1) (by omega)
    omega
theorem nx_le {u : Nat → Int32} {n f : Nat} (h : f ≤ n) : EN u n f ≤ FB u n (EN u n f) ∧ FB u n (EN u n f) ≤ n := fb_le (en_le h).2
theorem by_in {u : Nat → Int32} {n i : Nat} (h : i < n) : byT u n i = u i := if_pos h
theorem by_32 {u : Nat → Int32} {n i : Nat} : byT u n i = 32 ↔ (i < n ∧ u i = 32) := by
  unfold byT
  by_cases h : i < n
  · rw [if_pos h]; exact ⟨fun z => ⟨h, z⟩, fun z => z.2⟩
  · rw [if_neg h]; exact ⟨fun z => absurd z (by decide), fun z => absurd z.1 h⟩
theorem by_59 {u : Nat → Int32} {n i : Nat} : byT u n i = 59 ↔ (i < n ∧ u i = 59) := by
  unfold byT
  by_cases h : i < n
  · rw [if_pos h]; exact ⟨fun z => ⟨h, z⟩, fun z => z.2⟩
  · rw [if_neg h]; exact ⟨fun z => absurd z (by decide), fun z => absurd z.1 h⟩
theorem by_lt {u : Nat → Int32} {n i : Nat} (hU : TPU u n) : byT u n i < 0 ↔ n ≤ i := by
  unfold byT
  by_cases h : i < n
  · rw [if_pos h]
    obtain ⟨m, hm, e⟩ := hU i h
    rw [e]
    exact ⟨fun z => absurd z (nI_pos (by omega)), fun z => by omega⟩
  · rw [if_neg h]; exact ⟨fun _ => by omega, fun _ => by decide⟩
theorem by_A {u : Nat → Int32} {n i : Nat} : (97 ≤ byT u n i ∧ byT u n i ≤ 122) ↔ (i < n ∧ kdT u n i = 1) := by
  unfold byT kdT
  by_cases h : i < n
  · rw [if_pos h, if_neg (by omega)]
    by_cases h2 : 97 ≤ u i ∧ u i ≤ 122
    · rw [if_pos h2]; exact ⟨fun _ => ⟨h, rfl⟩, fun _ => h2⟩
    · rw [if_neg h2]; exact ⟨fun z => absurd z h2, fun z => by have := z.2; split at this <;> omega⟩
  · rw [if_neg h]; exact ⟨fun z => absurd z.1 (by decide), fun z => absurd z.1 h⟩
theorem by_D {u : Nat → Int32} {n i : Nat} : (48 ≤ byT u n i ∧ byT u n i ≤ 57) ↔ (i < n ∧ kdT u n i = 2) := by
  unfold byT kdT
  by_cases h : i < n
  · rw [if_pos h, if_neg (by omega)]
    by_cases h2 : 97 ≤ u i ∧ u i ≤ 122
    · rw [if_pos h2]
      exact ⟨fun z => absurd (Int32.le_trans h2.1 z.2) (by decide), fun z => by omega⟩
    · rw [if_neg h2]
      by_cases h3 : 48 ≤ u i ∧ u i ≤ 57
      · rw [if_pos h3]; exact ⟨fun _ => ⟨h, rfl⟩, fun _ => h3⟩
      · rw [if_neg h3]; exact ⟨fun z => absurd z h3, fun z => by omega⟩
  · rw [if_neg h]; exact ⟨fun z => absurd z.1 (by decide), fun z => absurd z.1 h⟩
/-- a digit, as a number -/
theorem kd_2 {u : Nat → Int32} {n i : Nat} (h : kdT u n i = 2) : i < n ∧ ∃ m, m < 10 ∧ u i = nI (48 + m) := by
  have hn : i < n := by
    have := fun z => (by rw [kd_0.mpr z] at h; omega : ¬ n ≤ i)
    by_cases q : n ≤ i
    · exact absurd q (this q)
    · omega
  have h2 := (by_D (u := u) (n := n) (i := i)).mpr ⟨hn, h⟩
  rw [by_in hn] at h2
  refine ⟨hn, ?_⟩
  obtain ⟨j, hj, e, -⟩ := ix_le (x := u i) (n := 57) (by omega) ⟨Int32.le_trans (by decide) h2.1, h2.2⟩
  have h3 := h2.1
  rw [e] at h3
  have h4 : 48 ≤ j := (nI_leI (a := 48) (by omega) (by omega)).mp h3
  exact ⟨j - 48, by omega, by rw [e, show 48 + (j - 48) = j by omega]⟩
theorem vl_st : ∀ m, m < 100 → ∀ d, d < 10 → ¬ (999 : Int32) < nI m ∧ 10 * nI m + nI (48 + d) - 48 = nI (10 * m + d) ∧ nI m * 10 + nI (48 + d) - 48 = nI (10 * m + d) := by decide +kernel
theorem vl_sm {u : Nat → Int32} {n f : Nat} : ∀ k, k ≤ 3 → (∀ j, j < k → kdT u n (f + j) = 2) → ∃ m, m < 10 ^ k ∧ vlN u f k = nI m
  | 0, _, _ => ⟨0, by decide, rfl⟩
  | k + 1, hk, h => by
    obtain ⟨m, hm, e⟩ := vl_sm (u := u) (n := n) (f := f) k (by omega) (fun j hj => h j (by omega))
    obtain ⟨-, d, hd, e2⟩ := kd_2 (h k (by omega))
    have hp : 10 ^ k ≤ 100 := by
      have h3 : k = 0 ∨ k = 1 ∨ k = 2 := by omega
      rcases h3 with rfl | rfl | rfl <;> decide
    obtain ⟨h1, h2, -⟩ := vl_st m (by omega) d hd
    refine ⟨10 * m + d, by rw [Nat.pow_succ]; omega, ?_⟩
    rw [vlN, e, if_neg h1, e2, h2]
/-- a step of the class's own way -/
theorem vl_own {u : Nat → Int32} {n f k : Nat} (hk : k ≤ 2) (h : ∀ j, j < k + 1 → kdT u n (f + j) = 2) : vlN u f k * 10 + u (f + k) - 48 = vlN u f (k + 1) := by
  obtain ⟨m, hm, e⟩ := vl_sm (u := u) (n := n) (f := f) k (by omega) (fun j hj => h j (by omega))
  obtain ⟨-, d, hd, e2⟩ := kd_2 (h k (by omega))
  have hp : 10 ^ k ≤ 100 := by
    have h3 : k = 0 ∨ k = 1 ∨ k = 2 := by omega
    rcases h3 with rfl | rfl | rfl <;> decide
  obtain ⟨h1, h2, h3⟩ := vl_st m (by omega) d hd
  rw [vlN, e, if_neg h1, e2, h2, h3]
/-! names, numbers -/
abbrev nmI (u : Nat → Int32) (n f i : Nat) : Prop := kdT u n f = 1 ∧ EN u n f - f = txL.getD i 0 ∧ ∀ j, j < txL.getD i 0 → u (f + j) = (txB.getD i []).getD j 0
abbrev nbP (u : Nat → Int32) (n f : Nat) (lo hi : Int32) : Prop := kdT u n f = 2 ∧ EN u n f - f ≤ 3 ∧ lo ≤ vlT u n f ∧ vlT u n f ≤ hi
abbrev naP (u : Nat → Int32) (n f L : Nat) (a b d z : Int32) : Prop := kdT u n f = 1 ∧ EN u n f - f = L ∧ u f = a ∧ u (f + 1) = b ∧ u (f + 2) = d ∧ u (f + L - 1) = z
theorem nm3 {u : Nat → Int32} {n f i : Nat} {a b d : Int32} (hL : txL.getD i 0 = 3) (h0 : (txB.getD i []).getD 0 0 = a) (h1 : (txB.getD i []).getD 1 0 = b) (h2 : (txB.getD i []).getD 2 0 = d) : naP u n f 3 a b d d ↔ nmI u n f i := by
  unfold naP nmI
  rw [hL]
  constructor
  · intro h
    refine ⟨h.1, h.2.1, fun j hj => ?_⟩
    have h3 : j = 0 ∨ j = 1 ∨ j = 2 := by omega
    rcases h3 with rfl | rfl | rfl
    · rw [h0]; exact h.2.2.1
    · rw [h1]; exact h.2.2.2.1
    · rw [h2]; exact h.2.2.2.2.1
  · intro h
    exact ⟨h.1, h.2.1, by have := h.2.2 0 (by omega); rw [h0] at this; exact this, by have := h.2.2 1 (by omega); rw [h1] at this; exact this, by have := h.2.2 2 (by omega); rw [h2] at this; exact this, by have := h.2.2 2 (by omega); rw [h2] at this; exact this⟩
theorem nm4 {u : Nat → Int32} {n f i : Nat} {a b d z : Int32} (hL : txL.getD i 0 = 4) (h0 : (txB.getD i []).getD 0 0 = a) (h1 : (txB.getD i []).getD 1 0 = b) (h2 : (txB.getD i []).getD 2 0 = d) (h3 : (txB.getD i []).getD 3 0 = z) : naP u n f 4 a b d z ↔ nmI u n f i := by
  unfold naP nmI
  rw [hL]
  constructor
  · intro h
    refine ⟨h.1, h.2.1, fun j hj => ?_⟩
    have h4 : j = 0 ∨ j = 1 ∨ j = 2 ∨ j = 3 := by omega
    rcases h4 with rfl | rfl | rfl | rfl
    · rw [h0]; exact h.2.2.1
    · rw [h1]; exact h.2.2.2.1
    · rw [h2]; exact h.2.2.2.2.1
    · rw [h3]; exact h.2.2.2.2.2
  · intro h
    exact ⟨h.1, h.2.1, by have := h.2.2 0 (by omega); rw [h0] at this; exact this, by have := h.2.2 1 (by omega); rw [h1] at this; exact this, by have := h.2.2 2 (by omega); rw [h2] at this; exact this, by have := h.2.2 3 (by omega); rw [h3] at this; exact this⟩
theorem nm5 {u : Nat → Int32} {n f i : Nat} {a b d w z : Int32} (hL : txL.getD i 0 = 5) (h0 : (txB.getD i []).getD 0 0 = a) (h1 : (txB.getD i []).getD 1 0 = b) (h2 : (txB.getD i []).getD 2 0 = d) (h3 : (txB.getD i []).getD 3 0 = w) (h4 : (txB.getD i []).getD 4 0 = z) : (naP u n f 5 a b d z ∧ u (f + 3) = w) ↔ nmI u n f i := by
  unfold naP nmI
  rw [hL]
  constructor
  · intro h
    refine ⟨h.1.1, h.1.2.1, fun j hj => ?_⟩
    have h5 : j = 0 ∨ j = 1 ∨ j = 2 ∨ j = 3 ∨ j = 4 := by omega
    rcases h5 with rfl | rfl | rfl | rfl | rfl
    · rw [h0]; exact h.1.2.2.1
    · rw [h1]; exact h.1.2.2.2.1
    · rw [h2]; exact h.1.2.2.2.2.1
    · rw [h3]; exact h.2
    · rw [h4]; exact h.1.2.2.2.2.2
  · intro h
    exact ⟨⟨h.1, h.2.1, by have := h.2.2 0 (by omega); rw [h0] at this; exact this, by have := h.2.2 1 (by omega); rw [h1] at this; exact this, by have := h.2.2 2 (by omega); rw [h2] at this; exact this, by have := h.2.2 4 (by omega); rw [h4] at this; exact this⟩, by have := h.2.2 3 (by omega); rw [h3] at this; exact this⟩
/-- in -/
theorem nm2 {u : Nat → Int32} {n f : Nat} : (kdT u n f = 1 ∧ EN u n f - f = 2 ∧ u f = 105 ∧ u (f + 1) = 110) ↔ nmI u n f 10 := by
  have hL : txL.getD 10 0 = 2 := rfl
  unfold nmI
  rw [hL]
  constructor
  · intro h
    refine ⟨h.1, h.2.1, fun j hj => ?_⟩
    have h5 : j = 0 ∨ j = 1 := by omega
    rcases h5 with rfl | rfl
    · exact h.2.2.1
    · exact h.2.2.2
  · intro h
    exact ⟨h.1, h.2.1, h.2.2 0 (by omega), h.2.2 1 (by omega)⟩
def kiN (u : Nat → Int32) (n f : Nat) : Nat := if nmI u n f 0 then 0 else if nmI u n f 1 then 1 else if nmI u n f 2 then 2 else if nmI u n f 3 then 3 else if nmI u n f 4 then 4 else if nmI u n f 5 then 5 else 6
def lwN (u : Nat → Int32) (n f : Nat) : Nat := if nmI u n f 6 then 0 else if nmI u n f 7 then 1 else if nmI u n f 8 then 2 else if nmI u n f 9 then 3 else 4
def kiT (u : Nat → Int32) (n f : Nat) : Int32 := if kiN u n f = 6 then -1 else nI (kiN u n f)
def lwT (u : Nat → Int32) (n f : Nat) : Int32 := if lwN u n f = 4 then -1 else nI (3 + lwN u n f)
def lcT (u : Nat → Int32) (n f : Nat) : Int32 := if lwN u n f = 4 then -1 else nI (lwN u n f)
theorem ki_le (u : Nat → Int32) (n f : Nat) : kiN u n f ≤ 6 := by
  unfold kiN
  split
  · omega
  · split
    · omega
    · split
      · omega
      · split
        · omega
        · split
          · omega
          · split <;> omega
theorem lw_le (u : Nat → Int32) (n f : Nat) : lwN u n f ≤ 4 := by
  unfold lwN
  split
  · omega
  · split
    · omega
    · split
      · omega
      · split <;> omega
/-- the first of several names that is here -/
theorem ki_of {u : Nat → Int32} {n f i : Nat} (hi : i < 6) (hn : ∀ j, j < i → ¬ nmI u n f j) (h : nmI u n f i) : kiN u n f = i := by
  have h6 : i = 0 ∨ i = 1 ∨ i = 2 ∨ i = 3 ∨ i = 4 ∨ i = 5 := by omega
  unfold kiN
  rcases h6 with rfl | rfl | rfl | rfl | rfl | rfl
  · rw [if_pos h]
  · rw [if_neg (hn 0 (by omega)), if_pos h]
  · rw [if_neg (hn 0 (by omega)), if_neg (hn 1 (by omega)), if_pos h]
  · rw [if_neg (hn 0 (by omega)), if_neg (hn 1 (by omega)), if_neg (hn 2 (by omega)), if_pos h]
  · rw [if_neg (hn 0 (by omega)), if_neg (hn 1 (by omega)), if_neg (hn 2 (by omega)), if_neg (hn 3 (by omega)), if_pos h]
  · rw [if_neg (hn 0 (by omega)), if_neg (hn 1 (by omega)), if_neg (hn 2 (by omega)), if_neg (hn 3 (by omega)), if_neg (hn 4 (by omega)), if_pos h]
theorem ki_no {u : Nat → Int32} {n f : Nat} (hn : ∀ j, j < 6 → ¬ nmI u n f j) : kiN u n f = 6 := by
  unfold kiN
  rw [if_neg (hn 0 (by omega)), if_neg (hn 1 (by omega)), if_neg (hn 2 (by omega)), if_neg (hn 3 (by omega)), if_neg (hn 4 (by omega)), if_neg (hn 5 (by omega))]
theorem lw_of {u : Nat → Int32} {n f i : Nat} (hi : i < 4) (hn : ∀ j, j < i → ¬ nmI u n f (6 + j)) (h : nmI u n f (6 + i)) : lwN u n f = i := by
  have h6 : i = 0 ∨ i = 1 ∨ i = 2 ∨ i = 3 := by omega
  unfold lwN
  rcases h6 with rfl | rfl | rfl | rfl
  · rw [if_pos h]
  · rw [if_neg (hn 0 (by omega)), if_pos h]
  · rw [if_neg (hn 0 (by omega)), if_neg (hn 1 (by omega)), if_pos h]
  · rw [if_neg (hn 0 (by omega)), if_neg (hn 1 (by omega)), if_neg (hn 2 (by omega)), if_pos h]
theorem lw_no {u : Nat → Int32} {n f : Nat} (hn : ∀ j, j < 4 → ¬ nmI u n f (6 + j)) : lwN u n f = 4 := by
  unfold lwN
  rw [if_neg (hn 0 (by omega)), if_neg (hn 1 (by omega)), if_neg (hn 2 (by omega)), if_neg (hn 3 (by omega))]
/-! what the TEXT tells: (1 if it is wrong, where, ..) -/
def pn4 (u : Nat → Int32) (n f : Nat) (r p e : Int32) : Int32 × Nat × Int32 × Int32 × Int32 × Int32 := if nmI u n f 13 then (0, FB u n (EN u n f), r, p, e, 1) else (0, f, r, p, e, 0)
def pn3 (u : Nat → Int32) (n f : Nat) (r p : Int32) : Int32 × Nat × Int32 × Int32 × Int32 × Int32 := if nmI u n f 12 then (if nbP u n (FB u n (EN u n f)) 0 9 then pn4 u n (FB u n (EN u n (FB u n (EN u n f)))) r p (vlT u n (FB u n (EN u n f))) else (1, FB u n (EN u n f), 0, 0, 0, 0)) else pn4 u n f r p 3
def pn2 (u : Nat → Int32) (n f : Nat) (r : Int32) : Int32 × Nat × Int32 × Int32 × Int32 × Int32 := if nmI u n f 11 then (if nbP u n (FB u n (EN u n f)) 0 99 then pn3 u n (FB u n (EN u n (FB u n (EN u n f)))) r (vlT u n (FB u n (EN u n f))) else (1, FB u n (EN u n f), 0, 0, 0, 0)) else pn3 u n f r 0
def pn1 (u : Nat → Int32) (n f : Nat) : Int32 × Nat × Int32 × Int32 × Int32 × Int32 := if nbP u n f 0 7 then pn2 u n (FB u n (EN u n f)) (vlT u n f) else (1, f, 0, 0, 0, 0)
def pn0 (u : Nat → Int32) (n f : Nat) : Int32 × Nat × Int32 × Int32 × Int32 × Int32 := if nmI u n f 10 then pn1 u n (FB u n (EN u n f)) else (1, f, 0, 0, 0, 0)
def pnR (u : Nat → Int32) (n N f : Nat) : Int32 × Nat × Int32 × Int32 × Int32 × Int32 := if N < 8 then pn0 u n (FB u n (EN u n f)) else (1, f, 0, 0, 0, 0)
def cm5 (S : Nat → Int32) (N : Nat) (k r p e z : Int32) : Nat → Int32 := fun x => if x = 0 then nI (N + 1) else if x = 7 + 5 * N then k else if x = 7 + 5 * N + 1 then p else if x = 7 + 5 * N + 2 then e else if x = 7 + 5 * N + 3 then r else if x = 7 + 5 * N + 4 then z else S x
theorem c5_cm {S : Nat → Int32} {N : Nat} {k r p e : Int32} : cmS S N k p e r = cm5 S N k r p e 0 := by
  funext x
  unfold cmS cm5 upd
  by_cases h0 : x = 0
  · rw [if_pos h0, if_pos h0]
  · rw [if_neg h0, if_neg h0]
    by_cases h1 : x = 7 + 5 * N
    · rw [if_neg (by omega), if_neg (by omega), if_neg (by omega), if_neg (by omega), if_pos h1, if_pos h1]
    · rw [if_neg h1]
      by_cases h2 : x = 7 + 5 * N + 1
      · rw [if_neg (by omega), if_neg (by omega), if_neg (by omega), if_pos h2, if_neg h1, if_pos h2]
      · rw [if_neg h2]
        by_cases h3 : x = 7 + 5 * N + 2
        · rw [if_neg (by omega), if_neg (by omega), if_pos h3, if_neg h1, if_neg h2, if_pos h3]
        · rw [if_neg h3]
          by_cases h4 : x = 7 + 5 * N + 3
          · rw [if_neg (by omega), if_pos h4, if_neg h1, if_neg h2, if_neg h3, if_pos h4]
          · rw [if_neg h4]
            by_cases h5 : x = 7 + 5 * N + 4
            · rw [if_pos h5, if_neg h1, if_neg h2, if_neg h3, if_neg h4]
            · rw [if_neg h5, if_neg h4, if_neg h3, if_neg h2, if_neg h1]
theorem c5_r {S : Nat → Int32} {N : Nat} {k r p e z v : Int32} : upd (cm5 S N k r p e z) (7 + 5 * N + 3) v = cm5 S N k v p e z := by
  funext x
  by_cases h : x = 7 + 5 * N + 3
  · subst h; rw [pk_us]; unfold cm5
    rw [if_neg (by omega), if_neg (by omega), if_neg (by omega), if_neg (by omega), if_pos rfl]
  · rw [pk_un h]; unfold cm5; rw [if_neg h, if_neg h]
theorem c5_p {S : Nat → Int32} {N : Nat} {k r p e z v : Int32} : upd (cm5 S N k r p e z) (7 + 5 * N + 1) v = cm5 S N k r v e z := by
  funext x
  by_cases h : x = 7 + 5 * N + 1
  · subst h; rw [pk_us]; unfold cm5
    rw [if_neg (by omega), if_neg (by omega), if_pos rfl]
  · rw [pk_un h]; unfold cm5; rw [if_neg h, if_neg h]
theorem c5_e {S : Nat → Int32} {N : Nat} {k r p e z v : Int32} : upd (cm5 S N k r p e z) (7 + 5 * N + 2) v = cm5 S N k r p v z := by
  funext x
  by_cases h : x = 7 + 5 * N + 2
  · subst h; rw [pk_us]; unfold cm5
    rw [if_neg (by omega), if_neg (by omega), if_neg (by omega), if_pos rfl]
  · rw [pk_un h]; unfold cm5; rw [if_neg h, if_neg h]
theorem c5_z {S : Nat → Int32} {N : Nat} {k r p e z v : Int32} : upd (cm5 S N k r p e z) (7 + 5 * N + 4) v = cm5 S N k r p e v := by
  funext x
  by_cases h : x = 7 + 5 * N + 4
  · subst h; rw [pk_us]; unfold cm5
    rw [if_neg (by omega), if_neg (by omega), if_neg (by omega), if_neg (by omega), if_neg (by omega), if_pos rfl]
  · rw [pk_un h]; unfold cm5; rw [if_neg h, if_neg h]
def smR (u : Nat → Int32) (n f : Nat) : Int32 × Nat := if kdT u n f = 3 ∧ u f = 59 then (0, FB u n (EN u n f)) else (1, f)
/-- one item: wrong or not, where it goes on, the state, how many PEOPLE -/
def itR (u : Nat → Int32) (n : Nat) (S : Nat → Int32) (N f : Nat) : Int32 × Nat × (Nat → Int32) × Nat :=
  if kiN u n f < 6 then (if (pnR u n N f).1 = 0 then ((smR u n (pnR u n N f).2.1).1, (smR u n (pnR u n N f).2.1).2, cm5 S N (nI (kiN u n f)) (pnR u n N f).2.2.1 (pnR u n N f).2.2.2.1 (pnR u n N f).2.2.2.2.1 (pnR u n N f).2.2.2.2.2, N + 1) else (1, (pnR u n N f).2.1, S, N))
  else if lwN u n f < 4 then (if nbP u n (FB u n (EN u n f)) (tLL.getD (lwN u n f) 0) (tLM.getD (lwN u n f) 0) then ((smR u n (FB u n (EN u n (FB u n (EN u n f))))).1, (smR u n (FB u n (EN u n (FB u n (EN u n f))))).2, upd S (3 + lwN u n f) (vlT u n (FB u n (EN u n f))), N) else (1, FB u n (EN u n f), S, N))
  else (1, f, S, N)
def psL (u : Nat → Int32) (n : Nat) : Nat → Nat × (Nat → Int32) × Nat → Int32 × Nat × (Nat → Int32) × Nat
  | 0, z => (0, z)
  | k + 1, z => if kdT u n z.1 = 0 then (0, z) else if (itR u n z.2.1 z.2.2 z.1).1 = 0 then psL u n k (itR u n z.2.1 z.2.2 z.1).2 else (1, (itR u n z.2.1 z.2.2 z.1).2)
/-- all as at first, but z -/
def bgS (S : Nat → Int32) : Nat → Int32 := fun k => if k < 47 then (if k = 2 then S 2 else if k = 3 then 2 else if k = 4 then 3 else if k = 5 then 1 else if k = 6 then 20 else 0) else S k
def opR (u : Nat → Int32) (n : Nat) (S : Nat → Int32) : Int32 × Nat × (Nat → Int32) × Nat := psL u n 201 (FB u n 0, bgS S, 0)
def R_opera (u : Nat → Int32) (n : Nat) (S : Nat → Int32) : Int32 := if (opR u n S).1 = 0 then nI (opR u n S).2.2.2 else -100 - nI (opR u n S).2.1
