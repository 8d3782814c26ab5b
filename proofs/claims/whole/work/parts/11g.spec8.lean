/-! THE WHOLE -/
theorem orN_lt : ∀ r, r < 8 → ∀ a, a < 256 → nI a ||| nI (2 ^ r) = nI (a ||| 2 ^ r) ∧ a ||| 2 ^ r < 256 := by decide +kernel
theorem rt_ix {S : Nat → Int32} {N : Nat} (hG : Gd S N) : ∀ n, n ≤ N → ∃ k, k < 256 ∧ orI (rtT S) n = nI k
  | 0, _ => ⟨0, by omega, rfl⟩
  | n + 1, h => by
    obtain ⟨k, hk, e⟩ := rt_ix hG n (by omega)
    obtain ⟨r, hr, er⟩ := (hG.one (o := n) (by omega)).2.1
    have h2 : ∀ r, r < 8 → (1 : Int32) <<< (nI r &&& 31) = nI (2 ^ r) := by decide +kernel
    have h3 := h2 r (by omega)
    obtain ⟨h4, h5⟩ := orN_lt r (by omega) k hk
    refine ⟨k ||| 2 ^ r, h5, ?_⟩
    show orI (rtT S) n ||| rtT S n = _
    unfold rtT at *
    rw [e, er, h3, h4]
def R_many (S : Nat → Int32) (N : Nat) (a b d x : Int32) : Int32 := if x = 0 then S 0 else if x = 1 then nI (pop (clN S N)) else if x = 2 then nI (pop (orI (rtT S) N).toNatClampNeg) else if x = 3 then sumI (p99T S) N else if x = 4 then a else if x = 5 then b else if x = 6 then d else -1
