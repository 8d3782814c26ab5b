/-! WHAT THE CALLS ANSWER, and what becomes of the state -/
theorem ix_lt {x : Int32} {n : Nat} (hn : n < 2 ^ 31) (h : 0 ≤ x ∧ x < nI n) : ∃ j : Nat, j < n ∧ x = nI j ∧ x.toNatClampNeg = j := by
  obtain ⟨j, hj, e⟩ := one_of hn h
  exact ⟨j, hj, e, by rw [e]; exact nI_clamp (by omega)⟩
theorem ix_le {x : Int32} {n : Nat} (hn : n < 2 ^ 30) (h : 0 ≤ x ∧ x ≤ nI n) : ∃ j : Nat, j ≤ n ∧ x = nI j ∧ x.toNatClampNeg = j := by
  obtain ⟨j, hj, rfl⟩ := nI_of (x := x) (Int32.not_lt.mpr h.1)
  exact ⟨j, (nI_leI hj (by omega)).mp h.2, rfl, nI_clamp hj⟩
theorem ix_one {S : Nat → Int32} {N : Nat} {x : Int32} (hG : Gd S N) (h : 0 ≤ x ∧ x < S 0) : ∃ j : Nat, j < N ∧ x = nI j ∧ x.toNatClampNeg = j := by
  have h8 := hG.le
  rw [hG.n] at h
  exact ix_lt (by omega) h
def R_set (S : Nat → Int32) (x y : Int32) : Int32 := if (0 ≤ x ∧ x ≤ 3) ∧ ((x = 1 ∧ 1 ≤ y) ∨ (¬ x = 1 ∧ 0 ≤ y)) ∧ ((x = 3 ∧ y ≤ 99) ∨ (¬ x = 3 ∧ y ≤ 9)) then S (3 + x.toNatClampNeg) else -1
def S_set (S : Nat → Int32) (x y : Int32) : Nat → Int32 := if (0 ≤ x ∧ x ≤ 3) ∧ ((x = 1 ∧ 1 ≤ y) ∨ (¬ x = 1 ∧ 0 ≤ y)) ∧ ((x = 3 ∧ y ≤ 99) ∨ (¬ x = 3 ∧ y ≤ 9)) then upd S (3 + x.toNatClampNeg) y else S
def R_lawOf (S : Nat → Int32) (x : Int32) : Int32 := if 0 ≤ x ∧ x ≤ 3 then S (3 + x.toNatClampNeg) else -1
def cmS (S : Nat → Int32) (N : Nat) (k p e r : Int32) : Nat → Int32 := upd (upd (upd (upd (upd (upd S (7 + 5 * N) k) (7 + 5 * N + 1) p) (7 + 5 * N + 2) e) (7 + 5 * N + 3) r) (7 + 5 * N + 4) 0) 0 (nI (N + 1))
def R_person (N : Nat) (k p e r : Int32) : Int32 := if (0 ≤ k ∧ k ≤ 5) ∧ (0 ≤ p ∧ p ≤ 99) ∧ (0 ≤ e ∧ e ≤ 9) ∧ (0 ≤ r ∧ r < 8) then (if N = 8 then -2 else nI N) else -1
def S_person (S : Nat → Int32) (N : Nat) (k p e r : Int32) : Nat → Int32 := if (0 ≤ k ∧ k ≤ 5) ∧ (0 ≤ p ∧ p ≤ 99) ∧ (0 ≤ e ∧ e ≤ 9) ∧ (0 ≤ r ∧ r < 8) then (if N = 8 then S else cmS S N k p e r) else S
def R_of (S : Nat → Int32) (x w : Int32) : Int32 := if (0 ≤ x ∧ x < S 0) ∧ (0 ≤ w ∧ w ≤ 4) then S (7 + 5 * x.toNatClampNeg + w.toNatClampNeg) else -1
def R_does (S : Nat → Int32) (N : Nat) (x w : Int32) : Int32 := if (0 ≤ x ∧ x < S 0) ∧ (0 ≤ w ∧ w ≤ 2) then 1000 + (if w = 0 then ldS S x.toNatClampNeg else if w = 1 then neS S x.toNatClampNeg else heS S N x.toNatClampNeg) else -1
def R_mind (S : Nat → Int32) (x k e : Int32) : Int32 := if (0 ≤ x ∧ x < S 0) ∧ (0 ≤ k ∧ k ≤ 5) ∧ (0 ≤ e ∧ e ≤ 9) then sK S x.toNatClampNeg else -1
def S_mind (S : Nat → Int32) (x k e : Int32) : Nat → Int32 := if (0 ≤ x ∧ x < S 0) ∧ (0 ≤ k ∧ k ≤ 5) ∧ (0 ≤ e ∧ e ≤ 9) then upd (upd S (7 + 5 * x.toNatClampNeg + 2) e) (7 + 5 * x.toNatClampNeg) k else S
def R_pride (S : Nat → Int32) (x y : Int32) : Int32 := if (0 ≤ x ∧ x < S 0) ∧ (0 ≤ y ∧ y ≤ 99) then sP S x.toNatClampNeg else -1
def S_pride (S : Nat → Int32) (x y : Int32) : Nat → Int32 := if (0 ≤ x ∧ x < S 0) ∧ (0 ≤ y ∧ y ≤ 99) then upd S (7 + 5 * x.toNatClampNeg + 1) y else S
def R_move (S : Nat → Int32) (x y : Int32) : Int32 := if (0 ≤ x ∧ x < S 0) ∧ (0 ≤ y ∧ y < 8) then sR S x.toNatClampNeg else -1
def S_move (S : Nat → Int32) (x y : Int32) : Nat → Int32 := if (0 ≤ x ∧ x < S 0) ∧ (0 ≤ y ∧ y < 8) then upd S (7 + 5 * x.toNatClampNeg + 3) y else S
def R_clap (S : Nat → Int32) (x y : Int32) : Int32 := if (0 ≤ x ∧ x < S 0) ∧ (0 ≤ y ∧ y ≤ 1) then sC S x.toNatClampNeg else -1
def S_clap (S : Nat → Int32) (x y : Int32) : Nat → Int32 := if (0 ≤ x ∧ x < S 0) ∧ (0 ≤ y ∧ y ≤ 1) then upd S (7 + 5 * x.toNatClampNeg + 4) y else S
def R_room (S : Nat → Int32) (N : Nat) (x w : Int32) : Int32 := if (0 ≤ x ∧ x < 8) ∧ (0 ≤ w ∧ w ≤ 1) then (if w = 0 then orI (thT S x) N else orI (thT S x) N &&& clS S N) else -1
def R_minutes (S : Nat → Int32) (N : Nat) (x : Int32) : Int32 := if 1 ≤ x ∧ x ≤ 60 then nI (pop (clN (gosS S N x.toNatClampNeg) N)) else -1
def S_minutes (S : Nat → Int32) (N : Nat) (x : Int32) : Nat → Int32 := if 1 ≤ x ∧ x ≤ 60 then gosS S N x.toNatClampNeg else S
/-- a minute by draws -/
def rmI (x y : Int32) : Int32 := x - x / y * y
noncomputable def mnS1 (S : Nat → Int32) (N : Nat) : Nat → Int32 :=
  if N = 0 then S else
    upd (upd (upd S 2 (zsS (S 2))) 2 (zsS (zsS (S 2)))) (7 + 5 * (zrS (zsS (S 2)) - zrS (zsS (S 2)) / nI N * nI N).toNatClampNeg + 4)
      (if zrS (zsS (zsS (S 2))) - zrS (zsS (zsS (S 2))) / 100 * 100 < S 6 then 1 - sC S (zrS (zsS (S 2)) - zrS (zsS (S 2)) / nI N * nI N).toNatClampNeg else sC S (zrS (zsS (S 2)) - zrS (zsS (S 2)) / nI N * nI N).toNatClampNeg)
noncomputable def mnS (S : Nat → Int32) (N : Nat) : Nat → Int32 := goS (mnS1 S N) N
theorem zr_ix (z : Int32) : ∃ k, k < 65536 ∧ zrS z = nI k := by
  refine ⟨z.toBitVec.toNat / 2 ^ 16, ?_, ?_⟩
  · have := z.toBitVec.isLt
    omega
  · have h := pk_ushr z 16 16 (by decide)
    have hl := z.toBitVec.isLt
    apply Int32.toBitVec_inj.mp
    apply BitVec.eq_of_toNat_eq
    rw [pk_tn (by omega)]
    exact h
theorem rm_ix (z : Int32) {N : Nat} (h0 : 0 < N) (h8 : N ≤ 8) : ∃ d, d < N ∧ zrS z - zrS z / nI N * nI N = nI d := by
  obtain ⟨k, hk, e⟩ := zr_ix z
  exact ⟨k % N, Nat.mod_lt _ h0, by rw [e]; exact pk_rem (by omega) h0 (by omega)⟩
theorem mnS1_pos {S : Nat → Int32} {N d : Nat} (h0 : 0 < N) (hd : d < 8) (ed : zrS (zsS (S 2)) - zrS (zsS (S 2)) / nI N * nI N = nI d) : mnS1 S N = upd (upd (upd S 2 (zsS (S 2))) 2 (zsS (zsS (S 2)))) (7 + 5 * d + 4) (if zrS (zsS (zsS (S 2))) - zrS (zsS (zsS (S 2))) / 100 * 100 < S 6 then 1 - sC S d else sC S d) := by
  unfold mnS1
  rw [if_neg (by omega), ed, nI_clamp (by omega)]
theorem at_ne {o d i j : Nat} (hi : i < 5) (hj : j < 5) (h : o ≠ d ∨ i ≠ j) : 7 + 5 * o + i ≠ 7 + 5 * d + j := by omega
/-- the state with one place changed -/
theorem Gd.up {S : Nat → Int32} {N k : Nat} {x : Int32} (h : Gd S N) (h0 : k ≠ 0) (h5 : k = 5 → ∃ w, w ≤ 9 ∧ x = nI w) (h4 : k = 4 → ∃ c, 1 ≤ c ∧ c ≤ 9 ∧ x = nI c) (h6 : k = 6 → ∃ w, w ≤ 99 ∧ x = nI w)
    (hK : ∀ o, o < N → k = 7 + 5 * o + 0 → ∃ w, w ≤ 5 ∧ x = nI w) (hR : ∀ o, o < N → k = 7 + 5 * o + 3 → ∃ w, w ≤ 7 ∧ x = nI w) (hC : ∀ o, o < N → k = 7 + 5 * o + 4 → x = 0 ∨ x = 1) : Gd (upd S k x) N := by
  obtain ⟨g0, g8, g5, g4, g6, go⟩ := h
  refine ⟨by rw [pk_un (Ne.symm h0)]; exact g0, g8, ?_, ?_, ?_, fun o ho => ?_⟩
  · by_cases e : k = 5
    · subst e; rw [pk_us]; exact h5 rfl
    · rw [pk_un (Ne.symm e)]; exact g5
  · by_cases e : k = 4
    · subst e; rw [pk_us]; exact h4 rfl
    · rw [pk_un (Ne.symm e)]; exact g4
  · by_cases e : k = 6
    · subst e; rw [pk_us]; exact h6 rfl
    · rw [pk_un (Ne.symm e)]; exact g6
  · obtain ⟨a, b, c⟩ := go o ho
    refine ⟨?_, ?_, ?_⟩
    · unfold sK
      by_cases e : k = 7 + 5 * o + 0
      · rw [← e, pk_us]; exact hK o ho e
      · rw [pk_un (Ne.symm e)]; exact a
    · unfold sR
      by_cases e : k = 7 + 5 * o + 3
      · rw [← e, pk_us]; exact hR o ho e
      · rw [pk_un (Ne.symm e)]; exact b
    · unfold sC
      by_cases e : k = 7 + 5 * o + 4
      · rw [← e, pk_us]; exact hC o ho e
      · rw [pk_un (Ne.symm e)]; exact c
theorem Gd.z {S : Nat → Int32} {N : Nat} (h : Gd S N) (x : Int32) : Gd (upd S 2 x) N := h.up (by omega) (fun e => by omega) (fun e => by omega) (fun e => by omega) (fun o _ e => by omega) (fun o _ e => by omega) (fun o _ e => by omega)
theorem Gd.c {S : Nat → Int32} {N d : Nat} (h : Gd S N) {x : Int32} (hx : x = 0 ∨ x = 1) : Gd (upd S (7 + 5 * d + 4) x) N := h.up (by omega) (fun e => by omega) (fun e => by omega) (fun e => by omega) (fun o _ e => by omega) (fun o _ e => by omega) (fun _ _ _ => hx)
theorem one_sub {x : Int32} (h : x = 0 ∨ x = 1) : 1 - x = 0 ∨ 1 - x = 1 := by
  rcases h with h | h
  · rw [h]; exact Or.inr (by decide)
  · rw [h]; exact Or.inl (by decide)
theorem Gd.mn1 {S : Nat → Int32} {N : Nat} (h : Gd S N) : Gd (mnS1 S N) N := by
  have h8 := h.le
  by_cases h0 : N = 0
  · unfold mnS1; rw [if_pos h0]; exact h
  · obtain ⟨d, hd, ed⟩ := rm_ix (zsS (S 2)) (N := N) (by omega) h8
    rw [mnS1_pos (by omega) (by omega) ed]
    refine ((h.z _).z _).c ?_
    have hc := (h.one hd).2.2
    by_cases q : zrS (zsS (zsS (S 2))) - zrS (zsS (zsS (S 2))) / 100 * 100 < S 6
    · rw [if_pos q]; exact one_sub hc
    · rw [if_neg q]; exact hc
theorem Gd.mn {S : Nat → Int32} {N : Nat} (h : Gd S N) : Gd (mnS S N) N := h.mn1.go
theorem cmS_0 {S : Nat → Int32} {N : Nat} {k p e r : Int32} : cmS S N k p e r 0 = nI (N + 1) := pk_us
/-- STIR: z, and in how many -/
noncomputable def stL (S : Nat → Int32) (N : Nat) (due : Int32) : Nat → Int32 × Int32
  | 0 => (S 2, 0)
  | k + 1 => ((mnS (upd S 2 (stL S N due k).1) N) 2, (stL S N due k).2 + (if due < nI (pop (clN (mnS (upd S 2 (stL S N due k).1) N) N)) then 1 else 0))
noncomputable def R_stir (S : Nat → Int32) (N : Nat) (x : Int32) : Int32 := if 1 ≤ x ∧ x ≤ 30 then (stL S N (nI (pop (clN (goS S N) N))) x.toNatClampNeg).2 else -1
def R_state (S : Nat → Int32) (N : Nat) (x : Int32) : Int32 := if x = 0 then S 1 else if x = 1 then clS S N else if x = 2 then sumI (sP S) N else if x = 3 then 1000 + sumI (laT S) N else if x = 4 then orI (rtT S) N else if x = 5 then sumI (sE S) N else -1
def R_clapping (S : Nat → Int32) (N : Nat) (x : Int32) : Int32 := if 0 ≤ x ∧ x ≤ 60 then clS (gosS S N x.toNatClampNeg) N else -1
/-- behind how many MINUTES, from n on, those of a set that clap are just some -/
def fwL (S : Nat → Int32) (N : Nat) (f t : Int32) : Nat → Nat → Int32
  | 0, _ => -3
  | k + 1, n => if clS (gosS S N n) N &&& f = t then nI n else fwL S N f t k (n + 1)
def evS (N : Nat) : Int32 := ((1 : Int32) <<< (nI N &&& 31)) - 1
def R_joins (S : Nat → Int32) (N : Nat) (x : Int32) : Int32 := if 0 ≤ x ∧ x < S 0 then fwL S N (1 <<< (x &&& 31)) (1 <<< (x &&& 31)) 61 0 else -1
def R_all (S : Nat → Int32) (N : Nat) : Int32 := fwL S N (evS N) (evS N) 61 0
def R_hush (S : Nat → Int32) (N : Nat) : Int32 := fwL S N (evS N) 0 61 0
def R_round (S : Nat → Int32) (N : Nat) : Int32 := fwL S N (evS N) (clS S N) 60 1
/-- which of the first v numbers in place k brings one the greatest PRIDE: it, and that -/
def pbL (S : Nat → Int32) (N o k n : Nat) : Nat → Int32 × Int32
  | 0 => (0, -1)
  | v + 1 => if (pbL S N o k n v).2 < sP (gosS (upd S k (nI v)) N n) o then (nI v, sP (gosS (upd S k (nI v)) N n) o) else pbL S N o k n v
def R_by (S : Nat → Int32) (N w c : Nat) (x y : Int32) : Int32 := if (0 ≤ x ∧ x < S 0) ∧ (1 ≤ y ∧ y ≤ 20) then (pbL S N x.toNatClampNeg (7 + 5 * x.toNatClampNeg + w) y.toNatClampNeg c).1 else -1
theorem cp_in {f g : Nat → Int32} {k : Nat} (h : k < 47) : cp47 f g k = f k := if_pos h
theorem cp_back {S a T : Nat → Int32} (h : ∀ k, 47 ≤ k → T k = S k) : cp47 (cp47 S a) T = S := by
  funext k
  unfold cp47
  by_cases hk : k < 47
  · rw [if_pos hk, if_pos hk]
  · rw [if_neg hk]; exact h k (by omega)
theorem go_hi {S : Nat → Int32} {N k : Nat} (hG : Gd S N) (h : 47 ≤ k) : goS S N k = S k := by
  have := hG.le
  exact goS_out (by omega) (by omega)
theorem gos_hi {S : Nat → Int32} {N k : Nat} (hG : Gd S N) (h : 47 ≤ k) : ∀ n, gosS S N n k = S k
  | 0 => rfl
  | n + 1 => (go_hi (hG.gos n) h).trans (gos_hi hG h n)
theorem mn1_hi {S : Nat → Int32} {N k : Nat} (hG : Gd S N) (h : 47 ≤ k) : mnS1 S N k = S k := by
  have h8 := hG.le
  by_cases h0 : N = 0
  · unfold mnS1; rw [if_pos h0]
  · obtain ⟨d, hd, ed⟩ := rm_ix (zsS (S 2)) (N := N) (by omega) h8
    rw [mnS1_pos (by omega) (by omega) ed, pk_un (by omega), pk_un (by omega), pk_un (by omega)]
theorem mn_hi {S : Nat → Int32} {N k : Nat} (hG : Gd S N) (h : 47 ≤ k) : mnS S N k = S k := (go_hi hG.mn1 h).trans (mn1_hi hG h)
theorem fw_hit {S : Nat → Int32} {N i : Nat} {f t : Int32} (hi : i ≤ 60) (h : clS (gosS S N i) N &&& f = t) : fwL S N f t (61 - i) i = nI i := by
  rw [show 61 - i = (60 - i) + 1 by omega, fwL, if_pos h]
theorem fw_miss {S : Nat → Int32} {N i : Nat} {f t : Int32} (hi : i ≤ 60) (h : ¬ clS (gosS S N i) N &&& f = t) : fwL S N f t (61 - i) i = fwL S N f t (61 - (i + 1)) (i + 1) := by
  rw [show 61 - i = (61 - (i + 1)) + 1 by omega, fwL, if_neg h]
theorem upd_self (f : Nat → Int32) (k : Nat) : upd f k (f k) = f := by
  funext j
  by_cases h : j = k
  · subst h; exact pk_us
  · exact pk_un h
theorem upd_twice (f : Nat → Int32) (k : Nat) (x y : Int32) : upd (upd f k x) k y = upd f k y := by
  funext j
  by_cases h : j = k
  · subst h; rw [pk_us, pk_us]
  · rw [pk_un h, pk_un h, pk_un h]
theorem gr_pos {m p : Int32} (h : m < p) : (if p < m then m else p) = p := if_neg (Int32.lt_asymm h)
theorem gr_neg {m p : Int32} (h : p ≤ m) : (if p < m then m else p) = m := by
  by_cases q : p < m
  · rw [if_pos q]
  · rw [if_neg q]; exact Int32.le_antisymm h (Int32.not_lt.mp q)
theorem pb_pos {S : Nat → Int32} {N o k n v : Nat} (h : (pbL S N o k n v).2 < sP (gosS (upd S k (nI v)) N n) o) : pbL S N o k n (v + 1) = (nI v, sP (gosS (upd S k (nI v)) N n) o) := by rw [pbL, if_pos h]
theorem pb_neg {S : Nat → Int32} {N o k n v : Nat} (h : ¬ (pbL S N o k n v).2 < sP (gosS (upd S k (nI v)) N n) o) : pbL S N o k n (v + 1) = pbL S N o k n v := by rw [pbL, if_neg h]
theorem Gd.w3 {S : Nat → Int32} {N o : Nat} (h : Gd S N) {i : Nat} (hi : i ≤ 7) : Gd (upd S (7 + 5 * o + 3) (nI i)) N := h.up (by omega) (fun e => by omega) (fun e => by omega) (fun e => by omega) (fun o _ e => by omega) (fun _ _ _ => ⟨i, hi, rfl⟩) (fun o _ e => by omega)
theorem Gd.w0 {S : Nat → Int32} {N o : Nat} (h : Gd S N) {i : Nat} (hi : i ≤ 5) : Gd (upd S (7 + 5 * o + 0) (nI i)) N := h.up (by omega) (fun e => by omega) (fun e => by omega) (fun e => by omega) (fun _ _ _ => ⟨i, hi, rfl⟩) (fun o _ e => by omega) (fun o _ e => by omega)
theorem Gd.w2 {S : Nat → Int32} {N o : Nat} (h : Gd S N) {x : Int32} : Gd (upd S (7 + 5 * o + 2) x) N := h.up (by omega) (fun e => by omega) (fun e => by omega) (fun e => by omega) (fun o _ e => by omega) (fun o _ e => by omega) (fun o _ e => by omega)
theorem Gd.w1 {S : Nat → Int32} {N o : Nat} (h : Gd S N) {x : Int32} : Gd (upd S (7 + 5 * o + 1) x) N := h.up (by omega) (fun e => by omega) (fun e => by omega) (fun e => by omega) (fun o _ e => by omega) (fun o _ e => by omega) (fun o _ e => by omega)
/-- all rooms together: each that claps is in one of the eight -/
theorem la_rooms {S : Nat → Int32} : ∀ {n : Nat}, (∀ o, o < n → ∃ r, r ≤ 7 ∧ sR S o = nI r) → sumI (rmT S (nI 0)) n + sumI (rmT S (nI 1)) n + sumI (rmT S (nI 2)) n + sumI (rmT S (nI 3)) n + sumI (rmT S (nI 4)) n + sumI (rmT S (nI 5)) n + sumI (rmT S (nI 6)) n + sumI (rmT S (nI 7)) n = sumI (laT S) n
  | 0, _ => by simp [sumI]
  | n + 1, h => by
    have ih := la_rooms (S := S) (n := n) (fun o ho => h o (by omega))
    obtain ⟨r, hr, er⟩ := h n (by omega)
    have key : ∀ j, j ≤ 7 → rmT S (nI j) n = if j = r then laT S n else 0 := by
      intro j hj
      unfold rmT laT
      by_cases e : j = r
      · rw [if_pos e, e, er]; simp
      · rw [if_neg e, if_neg (fun z => e ((nI_eq (by omega) (by omega)).mp (er.symm.trans z.2)).symm)]
    simp only [sumI]
    rw [← ih, key 0 (by omega), key 1 (by omega), key 2 (by omega), key 3 (by omega), key 4 (by omega), key 5 (by omega), key 6 (by omega), key 7 (by omega)]
    have hr8 : r = 0 ∨ r = 1 ∨ r = 2 ∨ r = 3 ∨ r = 4 ∨ r = 5 ∨ r = 6 ∨ r = 7 := by omega
    rcases hr8 with rfl | rfl | rfl | rfl | rfl | rfl | rfl | rfl <;> simp <;> ac_rfl
