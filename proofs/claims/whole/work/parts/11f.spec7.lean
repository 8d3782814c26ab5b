/-! ROWS -/
def rpS (S : Nat → Int32) (N j w : Nat) : Int32 := if w = 0 then sP S j else if w = 1 then sC S j else clS S N
def prR (S : Nat → Int32) (N j : Nat) (R : Nat → Int32) : Nat → Nat → Int32
  | 0 => R
  | i + 1 => upd (upd (upd (prR S N j R i) (3 * i + 0) (rpS (gosS S N (i + 1)) N j 0)) (3 * i + 1) (rpS (gosS S N (i + 1)) N j 1)) (3 * i + 2) (rpS (gosS S N (i + 1)) N j 2)
def prW (S : Nat → Int32) (N j : Nat) (R : Nat → Int32) (i : Nat) : Nat → Nat → Int32
  | 0 => prR S N j R i
  | w + 1 => upd (prW S N j R i w) (3 * i + w) (rpS (gosS S N (i + 1)) N j w)
theorem le_pred {x : Int32} {n : Nat} (hn : n ≤ 10) : x ≤ nI n - 1 ↔ x < nI n := by
  have h : ∀ n, n < 11 → (nI n - 1).toInt = (n : Int) - 1 := by decide +kernel
  rw [Int32.le_iff_toInt_le, Int32.lt_iff_toInt_lt, h n (by omega), nI_toInt (by omega)]
  omega
def R_prove (S : Nat → Int32) (x y : Int32) : Int32 := if (0 ≤ x ∧ x < S 0) ∧ (1 ≤ y ∧ y ≤ 10) then y else -1
def Q_prove (S : Nat → Int32) (N : Nat) (R : Nat → Int32) (x y : Int32) : Nat → Int32 := if (0 ≤ x ∧ x < S 0) ∧ (1 ≤ y ∧ y ≤ 10) then prR S N x.toNatClampNeg R y.toNatClampNeg else R
def C_prove (S : Nat → Int32) (k x y : Int32) : Int32 := if (0 ≤ x ∧ x < S 0) ∧ (1 ≤ y ∧ y ≤ 10) then y else k
def R_row (R : Nat → Int32) (n : Nat) (x y : Int32) : Int32 := if (0 ≤ x ∧ x < nI n) ∧ (0 ≤ y ∧ y ≤ 2) then R (3 * x.toNatClampNeg + y.toNatClampNeg) else -9
def Q_alter (R : Nat → Int32) (n : Nat) (x y z : Int32) : Nat → Int32 := if (0 ≤ x ∧ x < nI n) ∧ (0 ≤ y ∧ y ≤ 2) then upd R (3 * x.toNatClampNeg + y.toNatClampNeg) z else R
def jdM (S : Nat → Int32) (N j : Nat) (R : Nat → Int32) (i : Nat) : Prop := ∀ w, w < 3 → R (3 * i + w) = rpS (gosS S N (i + 1)) N j w
/-- the first row of n that isn't as the state asks, counted from 1; 0 if there is none -/
def jdS (S : Nat → Int32) (N j : Nat) (R : Nat → Int32) (n : Nat) (r : Int32) : Prop := (r = 0 ∧ ∀ i, i < n → jdM S N j R i) ∨ ∃ i, i < n ∧ r = nI (i + 1) ∧ ¬ jdM S N j R i ∧ ∀ k, k < i → jdM S N j R k
theorem jd_uniq {S : Nat → Int32} {N j : Nat} {R : Nat → Int32} {n : Nat} {x y : Int32} (h : jdS S N j R n x) (h' : jdS S N j R n y) : x = y := by
  rcases h with ⟨e, h⟩ | ⟨i, hi, e, b, h⟩
  · rcases h' with ⟨e', h'⟩ | ⟨k, hk, e', b', h'⟩
    · rw [e, e']
    · exact absurd (h k hk) b'
  · rcases h' with ⟨e', h'⟩ | ⟨k, hk, e', b', h'⟩
    · exact absurd (h' i hi) b
    · have h1 : ¬ i < k := fun z => b (h' i z)
      have h2 : ¬ k < i := fun z => b' (h k z)
      rw [e, e', show i = k by omega]
def P_judge (S : Nat → Int32) (N : Nat) (R : Nat → Int32) (n : Nat) (x r : Int32) : Prop := ((0 ≤ x ∧ x < S 0) ∧ jdS S N x.toNatClampNeg R n r) ∨ (¬ (0 ≤ x ∧ x < S 0) ∧ r = -1)
theorem judge_uniq {S : Nat → Int32} {N : Nat} {R : Nat → Int32} {n : Nat} {x z w : Int32} (h : P_judge S N R n x z) (h' : P_judge S N R n x w) : z = w := by
  rcases h with ⟨c, h⟩ | ⟨c, h⟩
  · rcases h' with ⟨_, h'⟩ | ⟨c', _⟩
    · exact jd_uniq h h'
    · exact absurd c c'
  · rcases h' with ⟨c', _⟩ | ⟨_, h'⟩
    · exact absurd c' c
    · rw [h, h']
theorem jd_next {S : Nat → Int32} {N j : Nat} {R : Nat → Int32} {i : Nat} (h : ∀ k, k < i → jdM S N j R k) (hm : jdM S N j R i) : ∀ k, k < i + 1 → jdM S N j R k := by
  intro k hk
  by_cases q : k = i
  · subst q; exact hm
  · exact h k (by omega)
theorem jm_next {S : Nat → Int32} {N j : Nat} {R : Nat → Int32} {i w : Nat} (h : ∀ k, k < w → R (3 * i + k) = rpS (gosS S N (i + 1)) N j k) (hm : R (3 * i + w) = rpS (gosS S N (i + 1)) N j w) : ∀ k, k < w + 1 → R (3 * i + k) = rpS (gosS S N (i + 1)) N j k := by
  intro k hk
  by_cases q : k = w
  · subst q; exact hm
  · exact h k (by omega)
theorem jm_3 {S : Nat → Int32} {N j : Nat} {R : Nat → Int32} {i : Nat} (h0 : R (3 * i) = sP (gosS S N (i + 1)) j) (h1 : R (3 * i + 1) = sC (gosS S N (i + 1)) j) (h2 : R (3 * i + 2) = clS (gosS S N (i + 1)) N) : jdM S N j R i := by
  intro w hw
  have h3 : w = 0 ∨ w = 1 ∨ w = 2 := by omega
  rcases h3 with rfl | rfl | rfl
  · exact h0
  · exact h1
  · exact h2
