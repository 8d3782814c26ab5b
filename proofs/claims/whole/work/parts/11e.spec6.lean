/-! ODDS: parts of a whole, Euclid's steps -/
def dnE : Nat → Nat → Nat → Prop
  | 0, _, b => b = 0
  | n + 1, a, b => b = 0 ∨ dnE n b (a % b)
def fpE : Nat → Nat × Nat
  | 0 => (0, 1)
  | n + 1 => match fpE n with | (a, b) => (b, a + b)
theorem dn_L : ∀ n a b, b < a → (b < (fpE (n + 1)).1 ∨ a < (fpE (n + 2)).1) → dnE n a b
  | 0, a, b, hab, h => by
    have h1 : (fpE 1).1 = 1 := rfl
    have h2 : (fpE 2).1 = 1 := rfl
    show b = 0
    rcases h with h | h
    · have h : b < (fpE 1).1 := h
      omega
    · have h : a < (fpE 2).1 := h
      omega
  | n + 1, a, b, hab, h => by
    by_cases h0 : b = 0
    · exact Or.inl h0
    · refine Or.inr (dn_L n b (a % b) (Nat.mod_lt _ (by omega)) ?_)
      have e : (fpE (n + 1 + 2)).1 = (fpE (n + 1)).1 + (fpE (n + 2)).1 := rfl
      have e2 : (fpE (n + 1 + 1)).1 = (fpE (n + 2)).1 := rfl
      have hd := Nat.div_add_mod a b
      have hq : 0 < a / b := Nat.div_pos (by omega) (by omega)
      have hm : b ≤ b * (a / b) := Nat.le_mul_of_pos_right b hq
      rcases h with h | h
      · exact Or.inr (by omega)
      · by_cases q : b < (fpE (n + 2)).1
        · exact Or.inr q
        · exact Or.inl (by omega)
theorem dn_all {a b : Nat} (hb : b < 2 ^ 63) : dnE 100 a b := by
  by_cases h : b = 0
  · exact Or.inl h
  · refine Or.inr (dn_L 99 b (a % b) (Nat.mod_lt _ (by omega)) (Or.inl ?_))
    have h1 : 2 ^ 63 ≤ (fpE (99 + 1)).1 := by decide +kernel
    have h2 : a % b < b := Nat.mod_lt _ (by omega)
    omega
theorem dn_next {n a b : Nat} (h : dnE n a b) (h0 : ¬ b = 0) (hn : 0 < n) : dnE (n - 1) b (a % b) := by
  cases n with
  | zero => omega
  | succ n => exact h.resolve_left h0
theorem dn_end {n a b : Nat} (h : dnE n a b) (hn : n = 0) : b = 0 := by
  subst hn
  exact h
theorem gcd_st (a b : Nat) : Nat.gcd b (a % b) = Nat.gcd a b := by
  rw [Nat.gcd_comm b, ← Nat.gcd_rec, Nat.gcd_comm]
theorem lN_ne {b : Nat} (h : ¬ b = 0) (hb : b < 2 ^ 63) : ¬ lN b = 0 := fun z => h ((pk_lEQ hb (by decide)).mp (z.trans (show (0 : Int64) = lN 0 from rfl)))
theorem lg_b0 {b : Nat} (hb : b < 2 ^ 63) : lg_cmp (lN b) 0 = bI (¬ b = 0) := by
  by_cases h : b = 0
  · subst h
    rw [bI_n (fun z => z rfl)]
    decide
  · rw [bI_t h]
    unfold lg_cmp
    rw [if_pos (show lN b > 0 from (pk_lLT (a := 0) (by decide) hb).mpr (by omega))]
def fcN : Nat → Nat
  | 0 => 1
  | n + 1 => fcN n * (n + 1)
def biN (n k : Nat) : Nat → Nat
  | 0 => 1
  | i + 1 => biN n k i * (n - k + (i + 1)) / (i + 1)
def abN (w k c : Nat) : Nat → Nat
  | 0 => c
  | i + 1 => abN w k c i * (if i < k then w else 100 - w)
theorem fc_le : ∀ n, n < 9 → fcN n ≤ 40320 := by decide +kernel
theorem fc_ne : ∀ n, n < 9 → ¬ fcN n = 0 := by decide +kernel
theorem bi_fc : ∀ n, n < 9 → ∀ k, k < n + 1 → fcN n / fcN k / fcN (n - k) = biN n k k := by decide +kernel
theorem bi_le : ∀ n, n < 9 → ∀ k, k < n + 1 → ∀ i, i < k + 1 → biN n k i ≤ 70 := by decide +kernel
theorem bi_mul : ∀ n, n < 9 → ∀ k, k < n + 1 → ∀ i, i < k → biN n k i * (n - k + (i + 1)) ≤ 1000 := by decide +kernel
theorem p100 : ∀ i, i < 9 → 100 ^ i ≤ 10000000000000000 := by decide +kernel
theorem ab_le {w k c : Nat} (hw : w ≤ 100) : ∀ i, abN w k c i ≤ c * 100 ^ i
  | 0 => by rw [abN, Nat.pow_zero, Nat.mul_one]; exact Nat.le_refl c
  | i + 1 => by
    rw [abN, Nat.pow_succ, ← Nat.mul_assoc]
    exact Nat.mul_le_mul (ab_le hw i) (by split <;> omega)
theorem ab_lt {w k c i : Nat} (hw : w ≤ 100) (hc : c ≤ 70) (hi : i < 9) : abN w k c i < 2 ^ 63 := by
  have h1 := ab_le (k := k) (c := c) hw i
  have h2 : c * 100 ^ i ≤ 70 * 10000000000000000 := Nat.mul_le_mul hc (p100 i hi)
  omega
theorem ab_1 {w k c i : Nat} (h : i < k) : lN (abN w k c i) * lN w = lN (abN w k c (i + 1)) := by
  rw [lN_mul, abN, if_pos h]
theorem ab_2 {w k c i : Nat} (h : ¬ i < k) : lN (abN w k c i) * lN (100 - w) = lN (abN w k c (i + 1)) := by
  rw [lN_mul, abN, if_neg h]
theorem n100 {w : Nat} (h : w ≤ 100) : 100 - nI w = nI (100 - w) := pk_sub h
def R_part (a b : Nat) (z : Int32) : Int64 := if z = 0 then lN (a / Nat.gcd a b) else lN (b / Nat.gcd a b)
def R_odds (S : Nat → Int32) (x y z : Int32) : Int64 := if (0 ≤ x ∧ x ≤ 8) ∧ (0 ≤ y ∧ y ≤ x) ∧ (0 ≤ z ∧ z ≤ 1) then R_part (abN (S 6).toNatClampNeg y.toNatClampNeg (biN x.toNatClampNeg y.toNatClampNeg y.toNatClampNeg) x.toNatClampNeg) (100 ^ x.toNatClampNeg) z else -1
def R_hope (S : Nat → Int32) (x z : Int32) : Int64 := if (0 ≤ x ∧ x ≤ 99) ∧ (0 ≤ z ∧ z ≤ 1) then R_part (x.toNatClampNeg * (S 6).toNatClampNeg) 100 z else -1
