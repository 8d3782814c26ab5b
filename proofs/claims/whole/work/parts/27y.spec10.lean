theorem le_pred2 {x : Int32} {n : Nat} (hn : n < 256) : x ≤ nI n - 1 ↔ x < nI n := by
  have h : ∀ n, n < 256 → (nI n - 1).toInt = (n : Int) - 1 := by decide +kernel
  rw [Int32.le_iff_toInt_le, Int32.lt_iff_toInt_lt, h n (by omega), nI_toInt (by omega)]
  omega
def R_trace (B : Nat → Int32) (c : Nat) (x : Int32) : Int32 := if 0 ≤ x ∧ x < nI c then B x.toNatClampNeg else -3
