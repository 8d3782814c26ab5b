/-! WHO IS TRIED: a set as a number, those of it clap (scS) or are hired (shS) -/
def btS (k o : Nat) : Nat := k / 2 ^ o % 2
def scS (S : Nat → Int32) (i k : Nat) : Nat → Int32 := fun x => if 7 ≤ x ∧ x < 7 + 5 * i ∧ (x - 7) % 5 = 4 then nI (btS k ((x - 7) / 5)) else S x
def shS (S : Nat → Int32) (i k : Nat) : Nat → Int32 := fun x => if 7 ≤ x ∧ x < 7 + 5 * i ∧ (x - 7) % 5 = 0 ∧ btS k ((x - 7) / 5) = 1 then 2 else S x
theorem bt_le (k o : Nat) : btS k o ≤ 1 := Nat.lt_succ_iff.mp (Nat.mod_lt _ (by decide))
theorem bt_and : ∀ j, j < 8 → ∀ k, k < 256 → (nI k &&& ((1 : Int32) <<< (nI j &&& 31)) = 0 ↔ btS k j = 0) := by decide +kernel
theorem bt_shr : ∀ j, j < 8 → ∀ k, k < 256 → (nI k >>> (nI j &&& 31)) &&& 1 = nI (btS k j) := by decide +kernel
theorem bt_bI : ∀ j, j < 8 → ∀ k, k < 256 → (nI k >>> (nI j &&& 31)) &&& 1 = bI (btS k j = 1) := by decide +kernel
theorem sh_pow : ∀ n, n < 9 → (1 : Int32) <<< (nI n &&& 31) = nI (2 ^ n) := by decide +kernel
theorem ev_pow : ∀ n, n < 9 → evS n = nI (2 ^ n - 1) := by decide +kernel
theorem pop_n : ∀ n, n < 9 → ∀ k, k < 2 ^ n → pop k ≤ n := by decide +kernel
theorem sc_0 (S : Nat → Int32) (k : Nat) : scS S 0 k = S := by
  funext x
  unfold scS
  rw [if_neg (by omega)]
theorem sc_step (S : Nat → Int32) (i k : Nat) : upd (scS S i k) (7 + 5 * i + 4) (nI (btS k i)) = scS S (i + 1) k := by
  funext x
  by_cases e : x = 7 + 5 * i + 4
  · subst e
    rw [pk_us]
    unfold scS
    rw [if_pos ⟨by omega, by omega, by omega⟩, show (7 + 5 * i + 4 - 7) / 5 = i by omega]
  · rw [pk_un e]
    unfold scS
    by_cases h : 7 ≤ x ∧ x < 7 + 5 * i ∧ (x - 7) % 5 = 4
    · rw [if_pos h, if_pos ⟨h.1, by omega, h.2.2⟩]
    · rw [if_neg h, if_neg (by omega)]
theorem sc_sc (S : Nat → Int32) (i k j : Nat) : scS (scS S i j) i k = scS S i k := by
  funext x
  unfold scS
  by_cases h : 7 ≤ x ∧ x < 7 + 5 * i ∧ (x - 7) % 5 = 4
  · rw [if_pos h, if_pos h]
  · rw [if_neg h, if_neg h, if_neg h]
theorem sc_out {S : Nat → Int32} {i k x : Nat} (h : x < 7 ∨ 7 + 5 * i ≤ x) : scS S i k x = S x := by
  unfold scS
  rw [if_neg (by omega)]
theorem sc_at {S : Nat → Int32} {i k o w : Nat} (hw : w < 4) : scS S i k (7 + 5 * o + w) = S (7 + 5 * o + w) := by
  unfold scS
  rw [if_neg (by omega)]
theorem sc_C {S : Nat → Int32} {i k o : Nat} (ho : o < i) : sC (scS S i k) o = nI (btS k o) := by
  unfold sC scS
  rw [if_pos ⟨by omega, by omega, by omega⟩, show (7 + 5 * o + 4 - 7) / 5 = o by omega]
theorem clN_sc {S : Nat → Int32} {N k : Nat} : ∀ n, n ≤ N → clN (scS S N k) n = k % 2 ^ n
  | 0, _ => by rw [clN, Nat.pow_zero, Nat.mod_one]
  | n + 1, h => by
    rw [clN, clN_sc n (by omega), Nat.mod_pow_succ]
    have hb : clB (scS S N k) n = k / 2 ^ n % 2 := by
      unfold clB
      rw [sc_C (by omega)]
      have h1 := bt_le k n
      have h2 : btS k n = 0 ∨ btS k n = 1 := by omega
      show _ = btS k n
      rcases h2 with e | e
      · rw [e]; rfl
      · rw [e]; rfl
    rw [hb, Nat.mul_comm (k / 2 ^ n % 2)]
theorem clS_sc {S : Nat → Int32} {N k : Nat} (hk : k < 2 ^ N) : clS (scS S N k) N = nI k := by
  unfold clS
  rw [clN_sc N (Nat.le_refl N), Nat.mod_eq_of_lt hk]
theorem Gd_sc {S : Nat → Int32} {N k : Nat} (h : Gd S N) : Gd (scS S N k) N := by
  obtain ⟨g0, g8, g5, g4, g6, go⟩ := h
  refine ⟨by rw [sc_out (Or.inl (by omega))]; exact g0, g8, by rw [sc_out (Or.inl (by omega))]; exact g5, by rw [sc_out (Or.inl (by omega))]; exact g4, by rw [sc_out (Or.inl (by omega))]; exact g6, fun o ho => ?_⟩
  refine ⟨by unfold sK; rw [sc_at (by omega)]; exact (go o ho).1, by unfold sR; rw [sc_at (by omega)]; exact (go o ho).2.1, ?_⟩
  rw [sc_C ho]
  have h1 := bt_le k o
  have h2 : btS k o = 0 ∨ btS k o = 1 := by omega
  rcases h2 with e | e
  · rw [e]; exact Or.inl rfl
  · rw [e]; exact Or.inr rfl
theorem hr_sc {S : Nat → Int32} {N k : Nat} {h : HC} (rH : HR S N h) (hk : k < 2 ^ N) : HR (scS S N k) N (hC_ h (nI k)) := by
  obtain ⟨a, b, c, e, f, g⟩ := rH
  refine ⟨fun i hi => ?_, fun o ho => ?_, ?_, ?_, ?_, ?_⟩
  · rw [sc_out (Or.inl (by omega))]; exact a i hi
  · unfold sK sP sE sR
    rw [sc_at (by omega), sc_at (by omega), sc_at (by omega), sc_at (by omega)]
    exact b o ho
  · rw [sc_out (Or.inl (by omega))]; exact c
  · rw [sc_out (Or.inl (by omega))]; exact e
  · rw [sc_out (Or.inl (by omega))]; exact f
  · exact (clS_sc hk).symm
theorem sh_0 (S : Nat → Int32) (k : Nat) : shS S 0 k = S := by
  funext x
  unfold shS
  rw [if_neg (by omega)]
theorem sh_at {S : Nat → Int32} {i k o w : Nat} (h0 : 0 < w) (hw : w < 5) : shS S i k (7 + 5 * o + w) = S (7 + 5 * o + w) := by
  unfold shS
  rw [if_neg (by omega)]
theorem sh_out {S : Nat → Int32} {i k x : Nat} (h : x < 7 ∨ 7 + 5 * i ≤ x) : shS S i k x = S x := by
  unfold shS
  rw [if_neg (by omega)]
theorem sh_K {S : Nat → Int32} {i k o : Nat} (ho : o < i) : sK (shS S i k) o = if btS k o = 1 then 2 else sK S o := by
  unfold sK shS
  by_cases h : btS k o = 1
  · rw [if_pos ⟨by omega, by omega, by omega, by rw [show (7 + 5 * o + 0 - 7) / 5 = o by omega]; exact h⟩, if_pos h]
  · rw [if_neg (fun z => h (by have := z.2.2.2; rw [show (7 + 5 * o + 0 - 7) / 5 = o by omega] at this; exact this)), if_neg h]
theorem sh_step {S : Nat → Int32} {i k : Nat} {v : Int32} (hv : v = if btS k i = 1 then 2 else S (7 + 5 * i)) : upd (shS S i k) (7 + 5 * i) v = shS S (i + 1) k := by
  funext x
  by_cases e : x = 7 + 5 * i
  · subst e
    rw [pk_us, hv]
    exact (sh_K (S := S) (Nat.lt_succ_self i)).symm
  · rw [pk_un e]
    unfold shS
    by_cases h : 7 ≤ x ∧ x < 7 + 5 * i ∧ (x - 7) % 5 = 0 ∧ btS k ((x - 7) / 5) = 1
    · rw [if_pos h, if_pos ⟨h.1, by omega, h.2.2.1, h.2.2.2⟩]
    · rw [if_neg h, if_neg (fun z => h ⟨z.1, by have := z.2.1; have := z.2.2.1; omega, z.2.2.1, z.2.2.2⟩)]
theorem clN_sh {S : Nat → Int32} {N k : Nat} : ∀ n, clN (shS S N k) n = clN S n
  | 0 => rfl
  | n + 1 => by
    rw [clN, clN, clN_sh n]
    unfold clB sC
    rw [sh_at (by omega) (by omega)]
theorem Gd_sh {S : Nat → Int32} {N k : Nat} (h : Gd S N) : Gd (shS S N k) N := by
  obtain ⟨g0, g8, g5, g4, g6, go⟩ := h
  refine ⟨by rw [sh_out (Or.inl (by omega))]; exact g0, g8, by rw [sh_out (Or.inl (by omega))]; exact g5, by rw [sh_out (Or.inl (by omega))]; exact g4, by rw [sh_out (Or.inl (by omega))]; exact g6, fun o ho => ?_⟩
  refine ⟨?_, by unfold sR; rw [sh_at (by omega) (by omega)]; exact (go o ho).2.1, by unfold sC; rw [sh_at (by omega) (by omega)]; exact (go o ho).2.2⟩
  rw [sh_K ho]
  by_cases h : btS k o = 1
  · rw [if_pos h]; exact ⟨2, by omega, rfl⟩
  · rw [if_neg h]; exact (go o ho).1
theorem hr_sh {S : Nat → Int32} {N k : Nat} {h : HC} {kk : Nat → Int32} (rH : HR S N h) (hk : ∀ o, o < N → kk o = if btS k o = 1 then 2 else sK S o) : HR (shS S N k) N (hK_ h kk) := by
  obtain ⟨a, b, c, e, f, g⟩ := rH
  refine ⟨fun i hi => ?_, fun o ho => ?_, ?_, ?_, ?_, ?_⟩
  · rw [sh_out (Or.inl (by omega))]; exact a i hi
  · rw [sh_K ho]
    unfold sP sE sR
    rw [sh_at (by omega) (by omega), sh_at (by omega) (by omega), sh_at (by omega) (by omega)]
    exact ⟨hk o ho, (b o ho).2⟩
  · rw [sh_out (Or.inl (by omega))]; exact c
  · rw [sh_out (Or.inl (by omega))]; exact e
  · rw [sh_out (Or.inl (by omega))]; exact f
  · refine Eq.trans g ?_
    unfold clS
    rw [clN_sh]
theorem bt_cl {S : Nat → Int32} {N o : Nat} (hG : Gd S N) (ho : o < N) : btS (clN S N) o = 1 ↔ sC S o = 1 := by
  have h8 := hG.le
  have h := cl_bit hG ho
  unfold clS at h
  rw [bt_and o (by omega) _ (clN_256 h8)] at h
  have h1 := bt_le (clN S N) o
  constructor
  · intro e
    exact Decidable.not_not.mp (fun z => by have := h.mpr z; omega)
  · intro e
    have : ¬ btS (clN S N) o = 0 := fun z => h.mp z e
    omega
/-- the set of fewest, of these the smallest number, of the sets below M that G holds of; -3 if there is none -/
def lsK (G : Nat → Prop) (M k : Nat) : Prop := k < M ∧ G k ∧ ∀ i, i < M → G i → pop k < pop i ∨ (pop k = pop i ∧ k ≤ i)
def lsS (G : Nat → Prop) (M : Nat) (r : Int32) : Prop := (r = -3 ∧ ∀ k, k < M → ¬ G k) ∨ ∃ k, r = nI k ∧ lsK G M k
theorem ls_uniq {G : Nat → Prop} {M : Nat} {x y : Int32} (h : lsS G M x) (h' : lsS G M y) : x = y := by
  rcases h with ⟨e, h⟩ | ⟨k, e, hk, g, h⟩
  · rcases h' with ⟨e', h'⟩ | ⟨k', e', hk', g', h'⟩
    · rw [e, e']
    · exact absurd g' (h k' hk')
  · rcases h' with ⟨e', h'⟩ | ⟨k', e', hk', g', h'⟩
    · exact absurd g (h' k hk)
    · have h1 := h k' hk' g'
      have h2 := h' k hk g
      have h3 : k = k' := by omega
      rw [e, e', h3]
theorem ls_nil {G : Nat → Prop} : lsS G 0 (-3) := Or.inl ⟨rfl, fun k h => absurd h (Nat.not_lt_zero k)⟩
theorem ls_skip {G : Nat → Prop} {M : Nat} {b : Int32} (h : lsS G M b) (hn : ¬ G M) : lsS G (M + 1) b := by
  rcases h with ⟨e, h⟩ | ⟨k, e, hk, g, h⟩
  · refine Or.inl ⟨e, fun k hk gk => ?_⟩
    by_cases q : k = M
    · subst q; exact hn gk
    · exact h k (by omega) gk
  · refine Or.inr ⟨k, e, by omega, g, fun i hi gi => ?_⟩
    by_cases q : i = M
    · subst q; exact absurd gi hn
    · exact h i (by omega) gi
theorem ls_nn {G : Nat → Prop} {M : Nat} {b : Int32} (h : lsS G M b) (hb : ¬ b < 0) : ∃ k, b = nI k ∧ lsK G M k := by
  rcases h with ⟨e, h⟩ | h
  · exact absurd (by rw [e]; decide) hb
  · exact h
theorem ls_ng {G : Nat → Prop} {M : Nat} {b : Int32} (hM : M < 2 ^ 31) (h : lsS G M b) (hb : b < 0) : b = -3 ∧ ∀ k, k < M → ¬ G k := by
  rcases h with h | ⟨k, e, hk, g, h⟩
  · exact h
  · rw [e] at hb
    exact absurd hb (nI_pos (by omega))
theorem lk_skip {G : Nat → Prop} {M k : Nat} (h : lsK G M k) (hp : pop k ≤ pop M) : lsS G (M + 1) (nI k) := by
  obtain ⟨hk, g, h⟩ := h
  refine Or.inr ⟨k, rfl, by omega, g, fun i hi gi => ?_⟩
  by_cases q : i = M
  · subst q; omega
  · exact h i (by omega) gi
theorem lk_new {G : Nat → Prop} {M k : Nat} (h : lsK G M k) (hp : pop M < pop k) (gM : G M) : lsS G (M + 1) (nI M) := by
  obtain ⟨hk, g, h⟩ := h
  refine Or.inr ⟨M, rfl, by omega, gM, fun i hi gi => ?_⟩
  by_cases q : i = M
  · subst q; omega
  · have := h i (by omega) gi
    omega
theorem l0_new {G : Nat → Prop} {M : Nat} (h : ∀ k, k < M → ¬ G k) (gM : G M) : lsS G (M + 1) (nI M) := by
  refine Or.inr ⟨M, rfl, by omega, gM, fun i hi gi => ?_⟩
  by_cases q : i = M
  · subst q; omega
  · exact absurd gi (h i (by omega))
/-- by size: all of a smaller size, and those of this size below k, are none -/
theorem by_hit {G : Nat → Prop} {M i k : Nat} (hO : ∀ j, j < M → G j → i ≤ pop j) (hI : ∀ j, j < k → G j → ¬ pop j = i) (hk : k < M) (hp : pop k = i) (g : G k) : lsS G M (nI k) := by
  refine Or.inr ⟨k, rfl, hk, g, fun j hj gj => ?_⟩
  have h1 := hO j hj gj
  by_cases q : j < k
  · have := hI j q gj
    omega
  · omega
theorem by_next {G : Nat → Prop} {M i k : Nat} (hO : ∀ j, j < M → G j → i ≤ pop j) (hI : ∀ j, j < k → G j → ¬ pop j = i) (hk : M ≤ k) : ∀ j, j < M → G j → i + 1 ≤ pop j := by
  intro j hj gj
  have h1 := hO j hj gj
  have h2 := hI j (by omega) gj
  omega
theorem by_skip {G : Nat → Prop} {i k : Nat} (hI : ∀ j, j < k → G j → ¬ pop j = i) (h : ¬ (pop k = i ∧ G k)) : ∀ j, j < k + 1 → G j → ¬ pop j = i := by
  intro j hj gj
  by_cases q : j = k
  · subst q; exact fun e => h ⟨e, gj⟩
  · exact hI j (by omega) gj
theorem by_none {G : Nat → Prop} {M i N : Nat} (hO : ∀ j, j < M → G j → i ≤ pop j) (hN : ∀ j, j < M → pop j ≤ N) (hi : N < i) : lsS G M (-3) :=
  Or.inl ⟨rfl, fun k hk g => by have := hO k hk g; have := hN k hk; omega⟩
def bgG (S : Nat → Int32) (N j n k : Nat) : Prop := btS k j = 0 ∧ sC (gosS (scS S N k) N n) j = 1
def hrG (S : Nat → Int32) (N n k : Nat) : Prop := clS (gosS (shS S N k) N n) N = evS N
def P_begunFor (S : Nat → Int32) (N : Nat) (x y z : Int32) : Prop := (((0 ≤ x ∧ x < S 0) ∧ (1 ≤ y ∧ y ≤ 20)) ∧ lsS (bgG S N x.toNatClampNeg y.toNatClampNeg) (2 ^ N) z) ∨ (¬ ((0 ≤ x ∧ x < S 0) ∧ (1 ≤ y ∧ y ≤ 20)) ∧ z = -1)
def P_hiredFor (S : Nat → Int32) (N : Nat) (y z : Int32) : Prop := ((1 ≤ y ∧ y ≤ 20) ∧ lsS (hrG S N y.toNatClampNeg) (2 ^ N) z) ∨ (¬ (1 ≤ y ∧ y ≤ 20) ∧ z = -1)
theorem begun_uniq {S : Nat → Int32} {N : Nat} {x y z w : Int32} (h : P_begunFor S N x y z) (h' : P_begunFor S N x y w) : z = w := by
  rcases h with ⟨c, h⟩ | ⟨c, h⟩
  · rcases h' with ⟨_, h'⟩ | ⟨c', _⟩
    · exact ls_uniq h h'
    · exact absurd c c'
  · rcases h' with ⟨c', _⟩ | ⟨_, h'⟩
    · exact absurd c' c
    · rw [h, h']
theorem hired_uniq {S : Nat → Int32} {N : Nat} {y z w : Int32} (h : P_hiredFor S N y z) (h' : P_hiredFor S N y w) : z = w := by
  rcases h with ⟨c, h⟩ | ⟨c, h⟩
  · rcases h' with ⟨_, h'⟩ | ⟨c', _⟩
    · exact ls_uniq h h'
    · exact absurd c c'
  · rcases h' with ⟨c', _⟩ | ⟨_, h'⟩
    · exact absurd c' c
    · rw [h, h']
