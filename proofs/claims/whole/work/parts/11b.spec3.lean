theorem lt_k : ∀ d, d < 8 → ∀ c, c < 256 → ltC (nI c) (nI d) 0 = nI (c - c / 2 ^ d % 2 * 2 ^ d) ∧ ltC (nI c) (nI d) 1 = nI (c - c / 2 ^ d % 2 * 2 ^ d + 2 ^ d) := by decide +kernel
theorem clB_up {S : Nat → Int32} {d o : Nat} {x : Int32} (h : o ≠ d) : clB (upd S (7 + 5 * d + 4) x) o = clB S o := by
  unfold clB sC
  rw [pk_un (by omega)]
theorem clB_us {S : Nat → Int32} {d : Nat} {x : Int32} : clB (upd S (7 + 5 * d + 4) x) d = if x = 1 then 1 else 0 := by
  unfold clB sC
  rw [pk_us]
theorem clN_lo {S : Nat → Int32} {d : Nat} {x : Int32} : ∀ n, n ≤ d → clN (upd S (7 + 5 * d + 4) x) n = clN S n
  | 0, _ => rfl
  | n + 1, h => by rw [clN, clN, clN_lo n (by omega), clB_up (by omega)]
theorem clN_hi {S : Nat → Int32} {d : Nat} {x : Int32} : ∀ n, d < n → clN (upd S (7 + 5 * d + 4) x) n + clB S d * 2 ^ d = clN S n + (if x = 1 then 1 else 0) * 2 ^ d
  | 0, h => absurd h (Nat.not_lt_zero d)
  | n + 1, h => by
    rw [clN, clN]
    by_cases e : d = n
    · subst e
      rw [clN_lo d (Nat.le_refl d), clB_us]
      omega
    · have ih := clN_hi (S := S) (d := d) (x := x) n (by omega)
      rw [clB_up (by omega)]
      omega
theorem clB_part (S : Nat → Int32) : ∀ n d, d < n → clB S d * 2 ^ d ≤ clN S n
  | 0, d, h => absurd h (Nat.not_lt_zero d)
  | n + 1, d, h => by
    rw [clN]
    by_cases e : d = n
    · subst e; omega
    · have := clB_part S n d (by omega)
      omega
theorem cl_set {S : Nat → Int32} {N d : Nat} {x : Int32} (h8 : N ≤ 8) (hd : d < N) (hx : x = 0 ∨ x = 1) : clS (upd S (7 + 5 * d + 4) x) N = ltC (clS S N) (nI d) x := by
  have h1 := clN_hi (S := S) (d := d) (x := x) N hd
  have h2 := clB_part S N d hd
  obtain ⟨a, b⟩ := lt_k d (by omega) _ (clN_256 (S := S) h8)
  rw [clN_bit S N d hd] at a b
  unfold clS
  rcases hx with rfl | rfl
  · rw [a]
    rw [if_neg (by decide)] at h1
    congr 1
    omega
  · rw [b]
    rw [if_pos rfl] at h1
    congr 1
    omega
theorem hr_c {S : Nat → Int32} {N d : Nat} {h : HC} {x : Int32} (hG : Gd S N) (hH : HR S N h) (hd : d < N) (hx : x = 0 ∨ x = 1) : HR (upd S (7 + 5 * d + 4) x) N (hC_ h (ltC (hC h) (nI d) x)) := by
  obtain ⟨a, b, c, e, f, g⟩ := hH
  refine ⟨fun k hk => ?_, fun o ho => ?_, ?_, ?_, ?_, ?_⟩
  · rw [pk_un (by omega)]; exact a k hk
  · unfold sK sP sE sR
    rw [pk_un (by omega), pk_un (by omega), pk_un (by omega), pk_un (by omega)]
    exact b o ho
  · rw [pk_un (by omega)]; exact c
  · rw [pk_un (by omega)]; exact e
  · rw [pk_un (by omega)]; exact f
  · show ltC (hC h) (nI d) x = _
    rw [g, cl_set hG.le hd hx]
theorem hr_z {S : Nat → Int32} {N : Nat} {h : HC} (x : Int32) (hH : HR S N h) : HR (upd S 2 x) N (hZ_ h x) := by
  obtain ⟨a, b, c, e, f, g⟩ := hH
  refine ⟨fun k hk => ?_, fun o ho => ?_, ?_, ?_, pk_us.symm, ?_⟩
  · rw [pk_un (by omega)]; exact a k hk
  · unfold sK sP sE sR
    rw [pk_un (by omega), pk_un (by omega), pk_un (by omega), pk_un (by omega)]
    exact b o ho
  · rw [pk_un (by omega)]; exact c
  · rw [pk_un (by omega)]; exact e
  · rw [show clS (upd S 2 x) N = clS S N from by
      unfold clS
      congr 1
      have : ∀ n, clN (upd S 2 x) n = clN S n := by
        intro n
        induction n with
        | zero => rfl
        | succ n ih =>
          rw [clN, clN, ih]
          unfold clB sC
          rw [pk_un (by omega)]
      exact this N]
    exact g
/-- places that the claps are not at -/
theorem cl_other {S : Nat → Int32} {N k : Nat} {x : Int32} (h : ∀ o, o < N → k ≠ 7 + 5 * o + 4) : clS (upd S k x) N = clS S N := by
  unfold clS
  congr 1
  have : ∀ n, n ≤ N → clN (upd S k x) n = clN S n := by
    intro n hn
    induction n with
    | zero => rfl
    | succ n ih =>
      rw [clN, clN, ih (by omega)]
      unfold clB sC
      rw [pk_un (Ne.symm (h n (by omega)))]
  exact this N (Nat.le_refl N)
theorem hr_law {S : Nat → Int32} {N j : Nat} {h : HC} {x : Int32} (hH : HR S N h) (hj : j < 4) : HR (upd S (3 + j) x) N (hL_ h (upd (hL h) j x)) := by
  obtain ⟨a, b, c, e, f, g⟩ := hH
  refine ⟨fun k hk => ?_, fun o ho => ?_, ?_, ?_, ?_, ?_⟩
  · show upd (hL h) j x k = _
    by_cases q : k = j
    · subst q; rw [pk_us, pk_us]
    · rw [pk_un q, pk_un (by omega)]; exact a k hk
  · unfold sK sP sE sR
    rw [pk_un (by omega), pk_un (by omega), pk_un (by omega), pk_un (by omega)]
    exact b o ho
  · rw [pk_un (by omega)]; exact c
  · rw [pk_un (by omega)]; exact e
  · rw [pk_un (by omega)]; exact f
  · rw [cl_other (fun o _ => by omega)]; exact g
theorem hr_k {S : Nat → Int32} {N d : Nat} {h : HC} {x : Int32} (hH : HR S N h) (hd : d < N) : HR (upd S (7 + 5 * d + 0) x) N (hK_ h (upd (hK h) d x)) := by
  obtain ⟨a, b, c, e, f, g⟩ := hH
  refine ⟨fun k hk => ?_, fun o ho => ?_, ?_, ?_, ?_, ?_⟩
  · rw [pk_un (by omega)]; exact a k hk
  · obtain ⟨b1, b2, b3, b4⟩ := b o ho
    refine ⟨?_, ?_, ?_, ?_⟩
    · show upd (hK h) d x o = upd S (7 + 5 * d + 0) x (7 + 5 * o + 0)
      by_cases q : o = d
      · subst q; rw [pk_us, pk_us]
      · rw [pk_un q, pk_un (by omega)]; exact b1
    · show hP h o = upd S (7 + 5 * d + 0) x (7 + 5 * o + 1)
      rw [pk_un (by omega)]; exact b2
    · show hE h o = upd S (7 + 5 * d + 0) x (7 + 5 * o + 2)
      rw [pk_un (by omega)]; exact b3
    · show hR h o = upd S (7 + 5 * d + 0) x (7 + 5 * o + 3)
      rw [pk_un (by omega)]; exact b4
  · rw [pk_un (by omega)]; exact c
  · rw [pk_un (by omega)]; exact e
  · rw [pk_un (by omega)]; exact f
  · rw [cl_other (fun o _ => by omega)]; exact g
theorem hr_p {S : Nat → Int32} {N d : Nat} {h : HC} {x : Int32} (hH : HR S N h) (hd : d < N) : HR (upd S (7 + 5 * d + 1) x) N (hP_ h (upd (hP h) d x)) := by
  obtain ⟨a, b, c, e, f, g⟩ := hH
  refine ⟨fun k hk => ?_, fun o ho => ?_, ?_, ?_, ?_, ?_⟩
  · rw [pk_un (by omega)]; exact a k hk
  · obtain ⟨b1, b2, b3, b4⟩ := b o ho
    refine ⟨?_, ?_, ?_, ?_⟩
    · show hK h o = upd S (7 + 5 * d + 1) x (7 + 5 * o + 0)
      rw [pk_un (by omega)]; exact b1
    · show upd (hP h) d x o = upd S (7 + 5 * d + 1) x (7 + 5 * o + 1)
      by_cases q : o = d
      · subst q; rw [pk_us, pk_us]
      · rw [pk_un q, pk_un (by omega)]; exact b2
    · show hE h o = upd S (7 + 5 * d + 1) x (7 + 5 * o + 2)
      rw [pk_un (by omega)]; exact b3
    · show hR h o = upd S (7 + 5 * d + 1) x (7 + 5 * o + 3)
      rw [pk_un (by omega)]; exact b4
  · rw [pk_un (by omega)]; exact c
  · rw [pk_un (by omega)]; exact e
  · rw [pk_un (by omega)]; exact f
  · rw [cl_other (fun o _ => by omega)]; exact g
theorem hr_e {S : Nat → Int32} {N d : Nat} {h : HC} {x : Int32} (hH : HR S N h) (hd : d < N) : HR (upd S (7 + 5 * d + 2) x) N (hE_ h (upd (hE h) d x)) := by
  obtain ⟨a, b, c, e, f, g⟩ := hH
  refine ⟨fun k hk => ?_, fun o ho => ?_, ?_, ?_, ?_, ?_⟩
  · rw [pk_un (by omega)]; exact a k hk
  · obtain ⟨b1, b2, b3, b4⟩ := b o ho
    refine ⟨?_, ?_, ?_, ?_⟩
    · show hK h o = upd S (7 + 5 * d + 2) x (7 + 5 * o + 0)
      rw [pk_un (by omega)]; exact b1
    · show hP h o = upd S (7 + 5 * d + 2) x (7 + 5 * o + 1)
      rw [pk_un (by omega)]; exact b2
    · show upd (hE h) d x o = upd S (7 + 5 * d + 2) x (7 + 5 * o + 2)
      by_cases q : o = d
      · subst q; rw [pk_us, pk_us]
      · rw [pk_un q, pk_un (by omega)]; exact b3
    · show hR h o = upd S (7 + 5 * d + 2) x (7 + 5 * o + 3)
      rw [pk_un (by omega)]; exact b4
  · rw [pk_un (by omega)]; exact c
  · rw [pk_un (by omega)]; exact e
  · rw [pk_un (by omega)]; exact f
  · rw [cl_other (fun o _ => by omega)]; exact g
theorem hr_r {S : Nat → Int32} {N d : Nat} {h : HC} {x : Int32} (hH : HR S N h) (hd : d < N) : HR (upd S (7 + 5 * d + 3) x) N (hR_ h (upd (hR h) d x)) := by
  obtain ⟨a, b, c, e, f, g⟩ := hH
  refine ⟨fun k hk => ?_, fun o ho => ?_, ?_, ?_, ?_, ?_⟩
  · rw [pk_un (by omega)]; exact a k hk
  · obtain ⟨b1, b2, b3, b4⟩ := b o ho
    refine ⟨?_, ?_, ?_, ?_⟩
    · show hK h o = upd S (7 + 5 * d + 3) x (7 + 5 * o + 0)
      rw [pk_un (by omega)]; exact b1
    · show hP h o = upd S (7 + 5 * d + 3) x (7 + 5 * o + 1)
      rw [pk_un (by omega)]; exact b2
    · show hE h o = upd S (7 + 5 * d + 3) x (7 + 5 * o + 2)
      rw [pk_un (by omega)]; exact b3
    · show upd (hR h) d x o = upd S (7 + 5 * d + 3) x (7 + 5 * o + 3)
      by_cases q : o = d
      · subst q; rw [pk_us, pk_us]
      · rw [pk_un q, pk_un (by omega)]; exact b4
  · rw [pk_un (by omega)]; exact c
  · rw [pk_un (by omega)]; exact e
  · rw [pk_un (by omega)]; exact f
  · rw [cl_other (fun o _ => by omega)]; exact g
theorem ltC_same {S : Nat → Int32} {N d : Nat} {h : HC} (hG : Gd S N) (hH : HR S N h) (hd : d < N) : ltC (hC h) (nI d) (sC S d) = hC h := by
  have h1 := cl_set (S := S) (x := sC S d) hG.le hd (hG.one hd).2.2
  rw [hH.c, ← h1]
  unfold sC
  rw [upd_self]
theorem cpy8 {f g : Nat → Int32} {N o : Nat} (h8 : N ≤ 8) (ho : o < N) : va_cpy f g 0 0 8 o = f o := by
  rw [pk_cpy_in (by omega) (by omega)]
  simp
theorem hr_become {S : Nat → Int32} {N : Nat} {h g u : HC} (h8 : N ≤ 8) (hH : HR S N g) (eL : hL u = va_cpy (hL g) (hL h) 0 0 4) (eK : hK u = va_cpy (hK g) (hK h) 0 0 8) (eP : hP u = va_cpy (hP g) (hP h) 0 0 8) (eE : hE u = va_cpy (hE g) (hE h) 0 0 8) (eR : hR u = va_cpy (hR g) (hR h) 0 0 8) (eN : hN u = hN g) (eC : hC u = hC g) (eM : hM u = hM g) (eZ : hZ u = hZ g) : HR S N u := by
  obtain ⟨a, b, c, e, f, q⟩ := hH
  refine ⟨fun k hk => ?_, fun o ho => ?_, eN.trans c, eM.trans e, eZ.trans f, eC.trans q⟩
  · rw [eL, pk_cpy_in (by omega) (by omega)]
    simpa using a k hk
  · obtain ⟨b1, b2, b3, b4⟩ := b o ho
    exact ⟨by rw [eK, cpy8 h8 ho]; exact b1, by rw [eP, cpy8 h8 ho]; exact b2, by rw [eE, cpy8 h8 ho]; exact b3, by rw [eR, cpy8 h8 ho]; exact b4⟩
