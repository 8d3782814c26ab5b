/-! THE MATHEMATICS: the state is the reference's row of numbers S (its places below 47) -/
def sK (S : Nat → Int32) (o : Nat) : Int32 := S (7 + 5 * o + 0)
def sP (S : Nat → Int32) (o : Nat) : Int32 := S (7 + 5 * o + 1)
def sE (S : Nat → Int32) (o : Nat) : Int32 := S (7 + 5 * o + 2)
def sR (S : Nat → Int32) (o : Nat) : Int32 := S (7 + 5 * o + 3)
def sC (S : Nat → Int32) (o : Nat) : Int32 := S (7 + 5 * o + 4)
def sumI (f : Nat → Int32) : Nat → Int32
  | 0 => 0
  | n + 1 => sumI f n + f n
def orI (f : Nat → Int32) : Nat → Int32
  | 0 => 0
  | n + 1 => orI f n ||| f n
/-- how loud one is -/
def gsS (S : Nat → Int32) (o : Nat) : Int32 := 1 + sE S o / 3
def ldS (S : Nat → Int32) (o : Nat) : Int32 := if sK S o = 1 then gsS S o + 1 else if sK S o = 2 then gsS S o + S 3 else if sK S o = 3 then 2 * (gsS S o + 1) else if sK S o = 4 then gsS S o + S 3 + sP S o / 10 else if sK S o = 5 then 0 - gsS S o else gsS S o
def liT (S : Nat → Int32) (r b : Int32) (o : Nat) : Int32 := if sC S o = 1 ∧ sR S o = r ∧ ¬ nI o = b then ldS S o else 0
def liS (S : Nat → Int32) (N : Nat) (r b : Int32) : Int32 := sumI (liT S r b) N
def nxR (r : Int32) : Int32 := (r + 1) - (r + 1) / 8 * 8
def pvR (r : Int32) : Int32 := ((r + 8) - 1) - ((r + 8) - 1) / 8 * 8
def heS (S : Nat → Int32) (N o : Nat) : Int32 := liS S N (sR S o) (nI o) + (liS S N (nxR (sR S o)) (-1) + liS S N (pvR (sR S o)) (-1)) / (1 + S 5)
/-- what one needs -/
def haS (S : Nat → Int32) (o : Nat) : Int32 := if S 1 - S 1 / S 4 * S 4 = 0 then 0 else sE S o
def neS (S : Nat → Int32) (o : Nat) : Int32 := if sK S o = 1 then sE S o - sP S o / 10 else if sK S o = 2 then haS S o else if sK S o = 3 then sE S o - sP S o / 10 + 2 else if sK S o = 4 then haS S o / 2 else if sK S o = 5 then sE S o + 3 else sE S o
def wiS (v : Int32) : Int32 := if v < 0 then 0 else if 99 < v then 99 else v
/-- a minute: the first i of the people have moved on -/
def goP (S : Nat → Int32) (N i : Nat) : Nat → Int32 := fun k =>
  if 7 ≤ k ∧ k < 7 + 5 * i ∧ (k - 7) % 5 = 1 then wiS (sP S ((k - 7) / 5) + heS S N ((k - 7) / 5))
  else if 7 ≤ k ∧ k < 7 + 5 * i ∧ (k - 7) % 5 = 4 then bI (neS S ((k - 7) / 5) ≤ heS S N ((k - 7) / 5))
  else S k
def goS (S : Nat → Int32) (N : Nat) : Nat → Int32 := upd (goP S N N) 1 (S 1 + 1)
def gosS (S : Nat → Int32) (N : Nat) : Nat → Nat → Int32
  | 0 => S
  | n + 1 => goS (gosS S N n) N
/-- those that clap, as a set -/
def clB (S : Nat → Int32) (o : Nat) : Nat := if sC S o = 1 then 1 else 0
def clN (S : Nat → Int32) : Nat → Nat
  | 0 => 0
  | n + 1 => clN S n + clB S n * 2 ^ n
def clS (S : Nat → Int32) (N : Nat) : Int32 := nI (clN S N)
/-- how many bits of a number below 256 -/
def pop (k : Nat) : Nat := k % 2 + k / 2 % 2 + k / 4 % 2 + k / 8 % 2 + k / 16 % 2 + k / 32 % 2 + k / 64 % 2 + k / 128 % 2
/-- what holds of the state at all times -/
def Gd (S : Nat → Int32) (N : Nat) : Prop := S 0 = nI N ∧ N ≤ 8 ∧ (∃ w, w ≤ 9 ∧ S 5 = nI w) ∧ (∃ c, 1 ≤ c ∧ c ≤ 9 ∧ S 4 = nI c) ∧ (∃ w, w ≤ 99 ∧ S 6 = nI w) ∧ ∀ o, o < N → (∃ k, k ≤ 5 ∧ sK S o = nI k) ∧ (∃ r, r ≤ 7 ∧ sR S o = nI r) ∧ (sC S o = 0 ∨ sC S o = 1)
theorem Gd.n {S : Nat → Int32} {N : Nat} (h : Gd S N) : S 0 = nI N := h.1
theorem Gd.le {S : Nat → Int32} {N : Nat} (h : Gd S N) : N ≤ 8 := h.2.1
theorem Gd.one {S : Nat → Int32} {N : Nat} (h : Gd S N) {o : Nat} (ho : o < N) : (∃ k, k ≤ 5 ∧ sK S o = nI k) ∧ (∃ r, r ≤ 7 ∧ sR S o = nI r) ∧ (sC S o = 0 ∨ sC S o = 1) := h.2.2.2.2.2 o ho
theorem one_of {x : Int32} {N : Nat} (hN : N < 2 ^ 31) (h : 0 ≤ x ∧ x < nI N) : ∃ o, o < N ∧ x = nI o := by
  obtain ⟨j, hj, rfl⟩ := nI_of (x := x) (Int32.not_lt.mpr h.1)
  exact ⟨j, (nI_ltI hj hN).mp h.2, rfl⟩
theorem one_iff {o N : Nat} (ho : o < 2 ^ 31) (hN : N < 2 ^ 31) : (0 ≤ nI o ∧ nI o < nI N) ↔ o < N := ⟨fun h => (nI_ltI ho hN).mp h.2, fun h => ⟨nI_pos' ho, (nI_ltI ho hN).mpr h⟩⟩
theorem w_le (a b : Int32) : a.toInt64 ≤ b.toInt64 ↔ a ≤ b := by
  rw [Int64.le_iff_toInt_le, Int32.le_iff_toInt_le, Int32.toInt_toInt64, Int32.toInt_toInt64]
theorem lg_lt0 {x y : Int64} : (lg_cmp x y < 0) = (x < y) := by
  unfold lg_cmp
  apply propext
  by_cases h : x > y
  · rw [if_pos h]
    exact ⟨fun q => absurd q (by decide), fun q => absurd (Int64.lt_asymm q h) (fun z => z)⟩
  · rw [if_neg h]
    by_cases h2 : x = y
    · rw [if_pos h2]
      exact ⟨fun q => absurd q (by decide), fun q => absurd q (by rw [h2]; exact Int64.lt_irrefl)⟩
    · rw [if_neg h2]
      exact ⟨fun _ => by
        rcases Int64.lt_or_eq_of_le (Int64.not_lt.mp h) with q | q
        · exact q
        · exact absurd q h2, fun _ => by decide⟩
theorem lg_gt0 {x y : Int64} : (0 < lg_cmp x y) = (y < x) := by
  unfold lg_cmp
  apply propext
  by_cases h : x > y
  · rw [if_pos h]
    exact ⟨fun _ => h, fun _ => by decide⟩
  · rw [if_neg h]
    by_cases h2 : x = y
    · rw [if_pos h2]
      exact ⟨fun q => absurd q (by decide), fun q => absurd q h⟩
    · rw [if_neg h2]
      exact ⟨fun q => absurd q (by decide), fun q => absurd q h⟩
theorem pop_and : ∀ k, k < 256 → nI k &&& (nI k - 1) = nI (k &&& (k - 1)) ∨ k = 0 := by decide +kernel
theorem pop_dec : ∀ k, k < 256 → k ≠ 0 → pop (k &&& (k - 1)) + 1 = pop k ∧ k &&& (k - 1) < k := by decide +kernel
theorem and_lt {a b n : Nat} (h : a < n) : a &&& b < n := Nat.lt_of_le_of_lt Nat.and_le_left h
theorem pop_le : ∀ k, k < 256 → pop k ≤ 8 := by decide +kernel
theorem clB_le (S : Nat → Int32) (o : Nat) : clB S o ≤ 1 := by unfold clB; split <;> omega
theorem clN_lt (S : Nat → Int32) : ∀ n, clN S n < 2 ^ n
  | 0 => by simp [clN]
  | n + 1 => by
    have h := clN_lt S n
    have h2 : clB S n * 2 ^ n ≤ 1 * 2 ^ n := Nat.mul_le_mul_right _ (clB_le S n)
    rw [clN, Nat.pow_succ]
    omega
theorem clN_256 {S : Nat → Int32} {N : Nat} (h : N ≤ 8) : clN S N < 256 := Nat.lt_of_lt_of_le (clN_lt S N) (Nat.pow_le_pow_right (by omega) h)
theorem shl_or : ∀ n, n < 8 → ∀ a, a < 2 ^ n → nI a ||| ((1 : Int32) <<< (nI n &&& 31)) = nI (a + 2 ^ n) ∧ nI a ||| ((0 : Int32) <<< (nI n &&& 31)) = nI a := by decide +kernel
theorem tI_0 : (0 : Int32).toInt = 0 := by decide
theorem tI_1 : (1 : Int32).toInt = 1 := by decide
theorem tI_2 : (2 : Int32).toInt = 2 := by decide
theorem tI_3 : (3 : Int32).toInt = 3 := by decide
theorem tI_4 : (4 : Int32).toInt = 4 := by decide
theorem tI_5 : (5 : Int32).toInt = 5 := by decide
theorem tI_6 : (6 : Int32).toInt = 6 := by decide
theorem tI_7 : (7 : Int32).toInt = 7 := by decide
theorem tI_8 : (8 : Int32).toInt = 8 := by decide
theorem tI_9 : (9 : Int32).toInt = 9 := by decide
theorem tI_10 : (10 : Int32).toInt = 10 := by decide
theorem tI_13 : (13 : Int32).toInt = 13 := by decide
theorem tI_19 : (19 : Int32).toInt = 19 := by decide
theorem tI_20 : (20 : Int32).toInt = 20 := by decide
theorem tI_30 : (30 : Int32).toInt = 30 := by decide
theorem tI_32 : (32 : Int32).toInt = 32 := by decide
theorem tI_40 : (40 : Int32).toInt = 40 := by decide
theorem tI_48 : (48 : Int32).toInt = 48 := by decide
theorem tI_57 : (57 : Int32).toInt = 57 := by decide
theorem tI_59 : (59 : Int32).toInt = 59 := by decide
theorem tI_60 : (60 : Int32).toInt = 60 := by decide
theorem tI_97 : (97 : Int32).toInt = 97 := by decide
theorem tI_99 : (99 : Int32).toInt = 99 := by decide
theorem tI_100 : (100 : Int32).toInt = 100 := by decide
theorem tI_122 : (122 : Int32).toInt = 122 := by decide
theorem tI_200 : (200 : Int32).toInt = 200 := by decide
theorem tI_39 : (39 : Int32).toInt = 39 := by decide
theorem tI_m1 : (-1 : Int32).toInt = -1 := by decide
theorem tI_m2 : (-2 : Int32).toInt = -2 := by decide
theorem tI_m3 : (-3 : Int32).toInt = -3 := by decide
theorem w_lt (a b : Int32) : a.toInt64 < b.toInt64 ↔ a < b := by
  rw [Int64.lt_iff_toInt_lt, Int32.lt_iff_toInt_lt, Int32.toInt_toInt64, Int32.toInt_toInt64]
theorem Gd.wall {S : Nat → Int32} {N : Nat} (h : Gd S N) : ¬ 1 + S 5 = 0 := by
  obtain ⟨w, hw, e⟩ := h.2.2.1
  rw [e]
  have : ∀ w, w ≤ 9 → ¬ 1 + nI w = 0 := by decide +kernel
  exact this w hw
theorem Gd.cue {S : Nat → Int32} {N : Nat} (h : Gd S N) : ¬ S 4 = 0 := by
  obtain ⟨w, h1, hw, e⟩ := h.2.2.2.1
  rw [e]
  have : ∀ w, w ≤ 9 → 1 ≤ w → ¬ nI w = 0 := by decide +kernel
  exact this w hw h1
theorem cl_step {S : Nat → Int32} {N i : Nat} (h : Gd S N) (hi : i < N) : nI (clN S i) ||| (S (7 + 5 * i + 4) <<< (nI i &&& 31)) = nI (clN S (i + 1)) := by
  have h8 := h.le
  obtain ⟨a, b⟩ := shl_or i (by omega) (clN S i) (clN_lt S i)
  have e : sC S i = S (7 + 5 * i + 4) := rfl
  rcases (h.one hi).2.2 with h1 | h1
  · rw [← e, h1, b, clN]
    have : clB S i = 0 := by unfold clB; rw [h1]; rfl
    rw [this, Nat.zero_mul, Nat.add_zero]
  · rw [← e, h1, a, clN]
    have : clB S i = 1 := by unfold clB; rw [h1]; rfl
    rw [this, Nat.one_mul]
theorem goP_0 (S : Nat → Int32) (N : Nat) : goP S N 0 = S := by
  funext k
  unfold goP
  rw [if_neg (by omega), if_neg (by omega)]
theorem goP_out {S : Nat → Int32} {N i k : Nat} (h : k < 7 ∨ 7 + 5 * i ≤ k) : goP S N i k = S k := by
  unfold goP
  rw [if_neg (by omega), if_neg (by omega)]
theorem goP_step (S : Nat → Int32) (N i : Nat) : upd (upd (goP S N i) (7 + 5 * i + 1) (wiS (sP S i + heS S N i))) (7 + 5 * i + 4) (bI (neS S i ≤ heS S N i)) = goP S N (i + 1) := by
  funext k
  by_cases h4 : k = 7 + 5 * i + 4
  · subst h4
    rw [pk_us]
    unfold goP
    rw [if_neg (by omega), if_pos (by omega), show (7 + 5 * i + 4 - 7) / 5 = i by omega]
  · rw [pk_un h4]
    by_cases h1 : k = 7 + 5 * i + 1
    · subst h1
      rw [pk_us]
      unfold goP
      rw [if_pos (by omega), show (7 + 5 * i + 1 - 7) / 5 = i by omega]
    · rw [pk_un h1]
      unfold goP
      by_cases ha : 7 ≤ k ∧ k < 7 + 5 * i ∧ (k - 7) % 5 = 1
      · rw [if_pos ha, if_pos ⟨ha.1, by omega, ha.2.2⟩]
      · rw [if_neg ha]
        by_cases hb : 7 ≤ k ∧ k < 7 + 5 * i ∧ (k - 7) % 5 = 4
        · rw [if_pos hb, if_neg (by omega), if_pos ⟨hb.1, by omega, hb.2.2⟩]
        · rw [if_neg hb, if_neg (by omega), if_neg (by omega)]
theorem goS_out {S : Nat → Int32} {N k : Nat} (h : k < 7 ∨ 7 + 5 * N ≤ k) (h1 : k ≠ 1) : goS S N k = S k := by
  unfold goS
  rw [pk_un h1, goP_out h]
theorem goP_att {S : Nat → Int32} {N i o j : Nat} (hj : j < 5) (h1 : j ≠ 1) (h4 : j ≠ 4) : goP S N i (7 + 5 * o + j) = S (7 + 5 * o + j) := by
  unfold goP
  rw [if_neg (by omega), if_neg (by omega)]
theorem goS_att {S : Nat → Int32} {N o j : Nat} (hj : j < 5) (h1 : j ≠ 1) (h4 : j ≠ 4) : goS S N (7 + 5 * o + j) = S (7 + 5 * o + j) := by
  unfold goS
  rw [pk_un (by omega), goP_att hj h1 h4]
theorem goS_K {S : Nat → Int32} {N o : Nat} : sK (goS S N) o = sK S o := goS_att (by omega) (by omega) (by omega)
theorem goS_E {S : Nat → Int32} {N o : Nat} : sE (goS S N) o = sE S o := goS_att (by omega) (by omega) (by omega)
theorem goS_R {S : Nat → Int32} {N o : Nat} : sR (goS S N) o = sR S o := goS_att (by omega) (by omega) (by omega)
theorem goS_P {S : Nat → Int32} {N o : Nat} (ho : o < N) : sP (goS S N) o = wiS (sP S o + heS S N o) := by
  unfold sP goS
  rw [pk_un (by omega)]
  unfold goP
  rw [if_pos (by omega), show (7 + 5 * o + 1 - 7) / 5 = o by omega]
  rfl
theorem goS_C {S : Nat → Int32} {N o : Nat} (ho : o < N) : sC (goS S N) o = bI (neS S o ≤ heS S N o) := by
  unfold sC goS
  rw [pk_un (by omega)]
  unfold goP
  rw [if_neg (by omega), if_pos (by omega), show (7 + 5 * o + 4 - 7) / 5 = o by omega]
theorem goS_1 {S : Nat → Int32} {N : Nat} : goS S N 1 = S 1 + 1 := pk_us
theorem bI_01 (b : Prop) [Decidable b] : bI b = 0 ∨ bI b = 1 := by unfold bI; split <;> simp
theorem Gd.go {S : Nat → Int32} {N : Nat} (h : Gd S N) : Gd (goS S N) N := by
  obtain ⟨h0, h8, h5, h4, h6, ho⟩ := h
  refine ⟨by rw [goS_out (by omega) (by omega)]; exact h0, h8, by rw [goS_out (by omega) (by omega)]; exact h5, by rw [goS_out (by omega) (by omega)]; exact h4, by rw [goS_out (by omega) (by omega)]; exact h6, fun o hl => ?_⟩
  obtain ⟨a, b, -⟩ := ho o hl
  rw [goS_K, goS_R, goS_C hl]
  exact ⟨a, b, bI_01 _⟩
theorem Gd.gos {S : Nat → Int32} {N : Nat} (h : Gd S N) : ∀ n, Gd (gosS S N n) N
  | 0 => h
  | n + 1 => (h.gos n).go
def cp47 (f g : Nat → Int32) : Nat → Int32 := fun k => if k < 47 then f k else g k
def cpN (f g : Nat → Int32) (i : Nat) : Nat → Int32 := fun k => if k < i then f k else g k
theorem cpN_0 (f g : Nat → Int32) : cpN f g 0 = g := by
  funext k
  unfold cpN
  rw [if_neg (by omega)]
theorem cpN_s (f g : Nat → Int32) (i : Nat) : upd (cpN f g i) i (f i) = cpN f g (i + 1) := by
  funext k
  by_cases h : k = i
  · subst h
    rw [pk_us]
    unfold cpN
    rw [if_pos (by omega)]
  · rw [pk_un h]
    unfold cpN
    by_cases h2 : k < i
    · rw [if_pos h2, if_pos (by omega)]
    · rw [if_neg h2, if_neg (by omega)]
/-! the class's house holds the state -/
def HR (S : Nat → Int32) (N : Nat) (h : HC) : Prop := (∀ k, k < 4 → hL h k = S (3 + k)) ∧ (∀ o, o < N → hK h o = sK S o ∧ hP h o = sP S o ∧ hE h o = sE S o ∧ hR h o = sR S o) ∧ hN h = S 0 ∧ hM h = S 1 ∧ hZ h = S 2 ∧ hC h = clS S N
theorem bits_k : ∀ o, o < 8 → ∀ c, c < 256 → (nI c &&& ((1 : Int32) <<< (nI o &&& 31)) = 0 ↔ c / 2 ^ o % 2 = 0) := by decide +kernel
theorem clN_bit (S : Nat → Int32) : ∀ n o, o < n → clN S n / 2 ^ o % 2 = clB S o
  | 0, o, h => absurd h (Nat.not_lt_zero o)
  | n + 1, o, h => by
    have hlt := clN_lt S n
    have hb := clB_le S n
    rw [clN]
    by_cases e : o = n
    · subst e
      rw [Nat.add_mul_div_right _ _ (Nat.two_pow_pos o), Nat.div_eq_of_lt hlt, Nat.zero_add]
      omega
    · have ho : o < n := by omega
      have e2 : clB S n * 2 ^ n = (clB S n * 2 ^ (n - o - 1) * 2) * 2 ^ o := by
        rw [Nat.mul_assoc, Nat.mul_assoc, ← Nat.pow_succ', ← Nat.pow_add]
        congr 2
        omega
      rw [e2, Nat.add_mul_div_right _ _ (Nat.two_pow_pos o), Nat.add_mul_mod_self_right]
      exact clN_bit S n o ho
theorem cl_bit {S : Nat → Int32} {N o : Nat} (hG : Gd S N) (ho : o < N) : (clS S N &&& ((1 : Int32) <<< (nI o &&& 31)) = 0 ↔ ¬ sC S o = 1) := by
  have h8 := hG.le
  unfold clS
  rw [bits_k o (by omega) _ (clN_256 h8), clN_bit S N o ho]
  unfold clB
  by_cases h : sC S o = 1
  · rw [if_pos h]; simp [h]
  · rw [if_neg h]; simp [h]
def ltC (c o z : Int32) : Int32 := if z = 0 then c &&& ((1 <<< (o &&& 31)) ^^^ (-1)) else c ||| (1 <<< (o &&& 31))
def thT (S : Nat → Int32) (x : Int32) (o : Nat) : Int32 := if sR S o = x then (1 : Int32) <<< (nI o &&& 31) else 0
def rtT (S : Nat → Int32) (o : Nat) : Int32 := (1 : Int32) <<< (sR S o &&& 31)
def p99T (S : Nat → Int32) (o : Nat) : Int32 := if sP S o = 99 then 1 else 0
def laT (S : Nat → Int32) (o : Nat) : Int32 := if sC S o = 1 then ldS S o else 0
/-- what a room sounds like to one that isn't in it -/
def rmT (S : Nat → Int32) (x : Int32) (o : Nat) : Int32 := if sC S o = 1 ∧ sR S o = x then ldS S o else 0
theorem i32_sub_zero (x : Int32) : x - 0 = x := by simp
theorem sumI_congr {f g : Nat → Int32} : ∀ {n : Nat}, (∀ k, k < n → f k = g k) → sumI f n = sumI g n
  | 0, _ => rfl
  | n + 1, h => by rw [sumI, sumI, sumI_congr (fun k hk => h k (by omega)), h n (by omega)]
theorem li_all {S : Nat → Int32} {N : Nat} {x : Int32} (hN : N ≤ 8) : liS S N x (-1) = sumI (rmT S x) N := sumI_congr (fun k hk => by
  unfold liT rmT
  have : ∀ k, k < 8 → ¬ nI k = -1 := by decide +kernel
  have h1 := this k (by omega)
  by_cases h : sC S k = 1 ∧ sR S k = x
  · rw [if_pos h, if_pos ⟨h.1, h.2, h1⟩]
  · rw [if_neg h, if_neg (fun z => h ⟨z.1, z.2.1⟩)])
/-- all in one's room but one -/
theorem li_but {S : Nat → Int32} {o : Nat} : ∀ {n : Nat}, n ≤ 8 → o < 8 → sumI (liT S (sR S o) (nI o)) n = sumI (rmT S (sR S o)) n - (if o < n then laT S o else 0)
  | 0, _, _ => by rw [if_neg (by omega)]; exact (i32_sub_zero _).symm
  | n + 1, hn, ho => by
    rw [sumI, sumI, li_but (by omega) ho]
    by_cases e : o = n
    · subst e
      rw [if_neg (by omega), if_pos (by omega)]
      have h1 : liT S (sR S o) (nI o) o = 0 := by unfold liT; rw [if_neg (fun h => h.2.2 rfl)]
      have h2 : rmT S (sR S o) o = laT S o := by unfold rmT laT; simp
      rw [h1, h2, i32_sub_zero, Int32.add_sub_cancel]
      simp
    · have h1 : liT S (sR S o) (nI o) n = rmT S (sR S o) n := by
        unfold liT rmT
        have hne : ¬ nI n = nI o := fun h => e ((nI_eq (by omega) (by omega)).mp h).symm
        by_cases h : sC S n = 1 ∧ sR S n = sR S o
        · rw [if_pos h, if_pos ⟨h.1, h.2, hne⟩]
        · rw [if_neg h, if_neg (fun z => h ⟨z.1, z.2.1⟩)]
      rw [h1]
      by_cases h2 : o < n
      · rw [if_pos h2, if_pos (by omega)]
        simp only [Int32.sub_eq_add_neg]
        ac_rfl
      · rw [if_neg h2, if_neg (by omega), i32_sub_zero, i32_sub_zero]
theorem ar_k : ∀ r, r < 8 → nI r &&& 7 = nI r ∧ (nI r + 1) &&& 7 = nI ((r + 1) % 8) ∧ (nI r - 1) &&& 7 = nI ((r + 7) % 8) ∧ nxR (nI r) = nI ((r + 1) % 8) ∧ pvR (nI r) = nI ((r + 7) % 8) := by decide +kernel
theorem HR.n {S : Nat → Int32} {N : Nat} {h : HC} (hH : HR S N h) (hG : Gd S N) : hN h = nI N := hH.2.2.1.trans hG.1
theorem HR.m {S : Nat → Int32} {N : Nat} {h : HC} (hH : HR S N h) : hM h = S 1 := hH.2.2.2.1
theorem HR.z {S : Nat → Int32} {N : Nat} {h : HC} (hH : HR S N h) : hZ h = S 2 := hH.2.2.2.2.1
theorem HR.c {S : Nat → Int32} {N : Nat} {h : HC} (hH : HR S N h) : hC h = clS S N := hH.2.2.2.2.2
theorem HR.K {S : Nat → Int32} {N o : Nat} {h : HC} (hH : HR S N h) (ho : o < N) : hK h o = sK S o := (hH.2.1 o ho).1
theorem HR.P {S : Nat → Int32} {N o : Nat} {h : HC} (hH : HR S N h) (ho : o < N) : hP h o = sP S o := (hH.2.1 o ho).2.1
theorem HR.E {S : Nat → Int32} {N o : Nat} {h : HC} (hH : HR S N h) (ho : o < N) : hE h o = sE S o := (hH.2.1 o ho).2.2.1
theorem HR.R {S : Nat → Int32} {N o : Nat} {h : HC} (hH : HR S N h) (ho : o < N) : hR h o = sR S o := (hH.2.1 o ho).2.2.2
theorem bI_congr {a b : Prop} [Decidable a] [Decidable b] (h : a ↔ b) : bI a = bI b := by
  unfold bI
  by_cases ha : a
  · rw [if_pos ha, if_pos (h.mp ha)]
  · rw [if_neg ha, if_neg (fun z => ha (h.mpr z))]
theorem nI_m1 {N : Nat} (hN : N < 2 ^ 30) : (nI N - 1).toInt = (N : Int) - 1 := by
  have := pk_sub_toInt (a := N) (b := 1) (by omega) (by omega)
  exact this
theorem has_iff {x : Int32} {N : Nat} (hN : N < 2 ^ 30) : bI (0 ≤ x ∧ x ≤ nI N - 1) = bI (0 ≤ x ∧ x < nI N) := by
  refine bI_congr ?_
  have h1 := nI_m1 hN
  have h2 := nI_toInt (n := N) (by omega)
  rw [Int32.le_iff_toInt_le, Int32.le_iff_toInt_le, Int32.lt_iff_toInt_lt, h1, h2]
  omega
theorem held_wi (x : Int32) : (if (0 : Int32) < (if x < 99 then x else 99) then (if x < 99 then x else 99) else 0) = wiS x := by
  unfold wiS
  by_cases h : x < 99
  · rw [if_pos h]
    by_cases h0 : 0 < x
    · rw [if_pos h0, if_neg (Int32.not_lt.mpr (Int32.le_of_lt h0)), if_neg (Int32.lt_asymm h)]
    · rw [if_neg h0]
      by_cases h1 : x < 0
      · rw [if_pos h1]
      · rw [if_neg h1, if_neg (Int32.lt_asymm h)]
        exact Int32.le_antisymm (Int32.not_lt.mp h1) (Int32.not_lt.mp h0)
  · rw [if_neg h, if_pos (by decide)]
    have h99 : (99 : Int32) ≤ x := Int32.not_lt.mp h
    have h0 : ¬ x < 0 := fun z => absurd (Int32.lt_of_lt_of_le z (by decide : (0 : Int32) ≤ 99)) h
    rw [if_neg h0]
    by_cases h2 : 99 < x
    · rw [if_pos h2]
    · rw [if_neg h2]
      exact Int32.le_antisymm h99 (Int32.not_lt.mp h2)
theorem li_but1 {S : Nat → Int32} {N o : Nat} (hN : N ≤ 8) (ho : ¬ N ≤ o) : liS S N (sR S o) (nI o) = sumI (rmT S (sR S o)) N - laT S o := by
  have := li_but (S := S) (o := o) (n := N) hN (by omega)
  rw [if_pos (by omega)] at this
  exact this
theorem rm_stay {S : Nat → Int32} {j : Nat → Int32} {i : Nat} (hj : ∀ r, r < 8 → j r = sumI (rmT S (nI r)) i) (hc : ¬ sC S i = 1) : ∀ r, r < 8 → j r = sumI (rmT S (nI r)) (i + 1) := by
  intro r hr
  rw [hj r hr, sumI]
  unfold rmT
  rw [if_neg (fun h => hc h.1)]
  simp
theorem rm_step {S : Nat → Int32} {j : Nat → Int32} {i ρ : Nat} (hj : ∀ r, r < 8 → j r = sumI (rmT S (nI r)) i) (hρ8 : ρ < 8) (hρ : sR S i = nI ρ) (hc : sC S i = 1) : ∀ r, r < 8 → (upd j ρ (j ρ + ldS S i)) r = sumI (rmT S (nI r)) (i + 1) := by
  intro r hr
  rw [sumI]
  by_cases e : r = ρ
  · subst e
    rw [pk_us, hj r hr]
    unfold rmT
    rw [if_pos ⟨hc, hρ⟩]
  · rw [pk_un e, hj r hr]
    unfold rmT
    rw [if_neg (fun h => e ((nI_eq (by omega) (by omega)).mp (h.2.symm.trans hρ)))]
    simp
theorem cl_or {S : Nat → Int32} {N i : Nat} (h : Gd S N) (hi : i < N) (hc : sC S i = 1) : nI (clN S i) ||| ((1 : Int32) <<< (nI i &&& 31)) = nI (clN S (i + 1)) := by
  have := cl_step h hi
  rw [show S (7 + 5 * i + 4) = 1 from hc] at this
  exact this
theorem cl_no {S : Nat → Int32} {N i : Nat} (h : Gd S N) (hi : i < N) (hc : sC S i = 0) : nI (clN S i) = nI (clN S (i + 1)) := by
  rw [clN]
  have : clB S i = 0 := by unfold clB; rw [hc]; rfl
  rw [this, Nat.zero_mul, Nat.add_zero]
theorem hr_go {S : Nat → Int32} {N : Nat} {h u : HC} (hG : Gd S N) (hH : HR S N h) (eC : hC u = nI (clN (goS S N) N)) (eP : ∀ k, k < N → hP u k = sP (goS S N) k) (eL : hL u = hL h) (eK : hK u = hK h) (eE : hE u = hE h) (eR : hR u = hR h) (eN : hN u = hN h) (eM : hM u = S 1 + 1) (eZ : hZ u = hZ h) : HR (goS S N) N u := by
  refine ⟨fun k hk => ?_, fun o ho => ⟨?_, eP o ho, ?_, ?_⟩, ?_, ?_, ?_, eC⟩
  · rw [eL, hH.1 k hk, goS_out (by omega) (by omega)]
  · rw [eK, hH.K ho, goS_K]
  · rw [eE, hH.E ho, goS_E]
  · rw [eR, hH.R ho, goS_R]
  · rw [eN, hH.2.2.1, goS_out (by omega) (by omega)]
  · rw [eM, goS_1]
  · rw [eZ, hH.z, goS_out (by omega) (by omega)]
theorem zsS_ex (z : Int32) : ∃ y : Int32, y = z * 1103515245 + 12345 := ⟨_, rfl⟩
/-- what is drawn by, one further; kept shut, so that no comparison counts up to the factor -/
noncomputable def zsS (z : Int32) : Int32 := (zsS_ex z).choose
theorem zsS_e (z : Int32) : zsS z = z * 1103515245 + 12345 := (zsS_ex z).choose_spec
def zrS (z : Int32) : Int32 := (z.toUInt32 >>> ((16 : Int32).toUInt32 &&& Int32.toUInt32 31)).toInt32
