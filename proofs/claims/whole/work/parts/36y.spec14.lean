/-! what the TEXT tells: bounds -/
theorem kd_lt {u : Nat → Int32} {n i : Nat} (h : ¬ kdT u n i = 0) : i < n := by
  have h9 : ¬ n ≤ i := fun z => h (kd_0.mpr z)
  omega
theorem nx2_le {u : Nat → Int32} {n f : Nat} (h : f ≤ n) : FB u n (EN u n f) ≤ n := (nx_le h).2
theorem nx_ge {u : Nat → Int32} {n f : Nat} (h : f ≤ n) : f ≤ FB u n (EN u n f) := Nat.le_trans (en_le h).1 (nx_le h).1
theorem nx_gt {u : Nat → Int32} {n f : Nat} (h : ¬ kdT u n f = 0) : f < FB u n (EN u n f) := Nat.lt_of_lt_of_le (en_lt h) (nx_le (Nat.le_of_lt (kd_lt h))).1
theorem pn4_ok {u : Nat → Int32} {n f : Nat} {r p e : Int32} (h : f ≤ n) : (pn4 u n f r p e).1 = 0 ∧ f ≤ (pn4 u n f r p e).2.1 ∧ (pn4 u n f r p e).2.1 ≤ n ∧ (pn4 u n f r p e).2.2.1 = r ∧ (pn4 u n f r p e).2.2.2.1 = p ∧ (pn4 u n f r p e).2.2.2.2.1 = e ∧ ((pn4 u n f r p e).2.2.2.2.2 = 0 ∨ (pn4 u n f r p e).2.2.2.2.2 = 1) := by
  unfold pn4
  split
  · exact ⟨rfl, nx_ge h, nx2_le h, rfl, rfl, rfl, Or.inr rfl⟩
  · exact ⟨rfl, Nat.le_refl f, h, rfl, rfl, rfl, Or.inl rfl⟩
def pnG (n f : Nat) (x : Int32 × Nat × Int32 × Int32 × Int32 × Int32) : Prop := (x.1 = 0 ∨ x.1 = 1) ∧ f ≤ x.2.1 ∧ x.2.1 ≤ n ∧ (x.1 = 0 → (0 ≤ x.2.2.1 ∧ x.2.2.1 ≤ 7) ∧ (x.2.2.2.2.2 = 0 ∨ x.2.2.2.2.2 = 1))
theorem pnG.mono {n f g : Nat} {x : Int32 × Nat × Int32 × Int32 × Int32 × Int32} (h : pnG n g x) (hf : f ≤ g) : pnG n f x := ⟨h.1, Nat.le_trans hf h.2.1, h.2.2.1, h.2.2.2⟩
theorem pnG_w {n f : Nat} (h : f ≤ n) : pnG n f (1, f, 0, 0, 0, 0) := ⟨Or.inr rfl, Nat.le_refl f, h, fun z => absurd z (show ¬ (1 : Int32) = 0 by decide)⟩
theorem pn4_G {u : Nat → Int32} {n f : Nat} {r p e : Int32} (h : f ≤ n) (hr : 0 ≤ r ∧ r ≤ 7) : pnG n f (pn4 u n f r p e) := by
  obtain ⟨a, b, c, d, _, _, g⟩ := pn4_ok (u := u) (r := r) (p := p) (e := e) h
  exact ⟨Or.inl a, b, c, fun _ => ⟨by rw [d]; exact hr, g⟩⟩
theorem pn3_G {u : Nat → Int32} {n f : Nat} {r p : Int32} (h : f ≤ n) (hr : 0 ≤ r ∧ r ≤ 7) : pnG n f (pn3 u n f r p) := by
  unfold pn3
  split
  · split
    · exact (pn4_G (nx2_le (nx2_le h)) hr).mono (Nat.le_trans (nx_ge h) (nx_ge (nx2_le h)))
    · exact (pnG_w (nx2_le h)).mono (nx_ge h)
  · exact pn4_G h hr
theorem pn2_G {u : Nat → Int32} {n f : Nat} {r : Int32} (h : f ≤ n) (hr : 0 ≤ r ∧ r ≤ 7) : pnG n f (pn2 u n f r) := by
  unfold pn2
  split
  · split
    · exact (pn3_G (nx2_le (nx2_le h)) hr).mono (Nat.le_trans (nx_ge h) (nx_ge (nx2_le h)))
    · exact (pnG_w (nx2_le h)).mono (nx_ge h)
  · exact pn3_G h hr
theorem pn1_G {u : Nat → Int32} {n f : Nat} (h : f ≤ n) : pnG n f (pn1 u n f) := by
  unfold pn1
  split
  · rename_i hb
    exact (pn2_G (nx2_le h) hb.2.2).mono (nx_ge h)
  · exact pnG_w h
theorem pn0_G {u : Nat → Int32} {n f : Nat} (h : f ≤ n) : pnG n f (pn0 u n f) := by
  unfold pn0
  split
  · exact (pn1_G (nx2_le h)).mono (nx_ge h)
  · exact pnG_w h
theorem pnR_G {u : Nat → Int32} {n N f : Nat} (h : f ≤ n) : pnG n f (pnR u n N f) := by
  unfold pnR
  split
  · exact (pn0_G (nx2_le h)).mono (nx_ge h)
  · exact pnG_w h
theorem pnR_N {u : Nat → Int32} {n N f : Nat} (h : (pnR u n N f).1 = 0) : N < 8 := by
  unfold pnR at h
  by_cases q : N < 8
  · exact q
  · rw [if_neg q] at h; exact absurd h (show ¬ (1 : Int32) = 0 by decide)
theorem c5_hi {S : Nat → Int32} {N j : Nat} {k r p e z : Int32} (hN : N < 8) (hj : 47 ≤ j) : cm5 S N k r p e z j = S j := by
  unfold cm5
  rw [if_neg (by omega), if_neg (by omega), if_neg (by omega), if_neg (by omega), if_neg (by omega), if_neg (by omega)]
theorem lw_lo : ∀ l, l < 4 → (l = 1 → tLL.getD l 0 = 1) ∧ (¬ l = 1 → tLL.getD l 0 = 0) := by decide +kernel
theorem lw_hi : ∀ l, l < 4 → (l = 3 → tLM.getD l 0 = 99) ∧ (¬ l = 3 → tLM.getD l 0 = 9) := by decide +kernel
theorem sm_G {u : Nat → Int32} {n f : Nat} (h : f ≤ n) : ((smR u n f).1 = 0 ∨ (smR u n f).1 = 1) ∧ f ≤ (smR u n f).2 ∧ (smR u n f).2 ≤ n ∧ ((smR u n f).1 = 0 → f < (smR u n f).2) := by
  unfold smR
  split
  · rename_i h3
    exact ⟨Or.inl rfl, nx_ge h, nx2_le h, fun _ => nx_gt (by rw [h3.1]; decide)⟩
  · exact ⟨Or.inr rfl, Nat.le_refl f, h, fun z => absurd z (show ¬ (1 : Int32) = 0 by decide)⟩
/-- an item: it ends further on, if it is right -/
theorem it_G {u : Nat → Int32} {n N f : Nat} {S : Nat → Int32} (h : f ≤ n) : ((itR u n S N f).1 = 0 ∨ (itR u n S N f).1 = 1) ∧ (itR u n S N f).2.1 ≤ n ∧ ((itR u n S N f).1 = 0 → f < (itR u n S N f).2.1) := by
  have hp := pnR_G (u := u) (N := N) h
  unfold itR
  split
  · split
    · have hs := sm_G (u := u) hp.2.2.1
      exact ⟨hs.1, hs.2.2.1, fun z => Nat.lt_of_le_of_lt hp.2.1 (hs.2.2.2 z)⟩
    · exact ⟨Or.inr rfl, hp.2.2.1, fun z => absurd z (show ¬ (1 : Int32) = 0 by decide)⟩
  · split
    · split
      · have hs := sm_G (u := u) (nx2_le (u := u) (nx2_le (u := u) h))
        exact ⟨hs.1, hs.2.2.1, fun z => Nat.lt_of_le_of_lt (Nat.le_trans (nx_ge h) (nx_ge (nx2_le h))) (hs.2.2.2 z)⟩
      · exact ⟨Or.inr rfl, nx2_le h, fun z => absurd z (show ¬ (1 : Int32) = 0 by decide)⟩
    · exact ⟨Or.inr rfl, h, fun z => absurd z (show ¬ (1 : Int32) = 0 by decide)⟩
theorem c5_at {S : Nat → Int32} {N o j : Nat} {k r p e z : Int32} (ho : o < N) (hj : j < 5) : cm5 S N k r p e z (7 + 5 * o + j) = S (7 + 5 * o + j) := by
  unfold cm5
  rw [if_neg (by omega), if_neg (by omega), if_neg (by omega), if_neg (by omega), if_neg (by omega), if_neg (by omega)]
theorem cl5 {S : Nat → Int32} {N : Nat} {k r p e z : Int32} : ∀ m, m ≤ N → clN (cm5 S N k r p e z) m = clN S m
  | 0, _ => rfl
  | m + 1, h => by
    have e_ : sC (cm5 S N k r p e z) m = sC S m := c5_at (j := 4) (by omega) (by omega)
    rw [clN, clN, cl5 m (by omega)]
    unfold clB
    rw [e_]
theorem c5_lo {S : Nat → Int32} {N i : Nat} {k r p e z : Int32} (h0 : i ≠ 0) (hi : i < 7) : cm5 S N k r p e z i = S i := by
  unfold cm5
  rw [if_neg h0, if_neg (by omega), if_neg (by omega), if_neg (by omega), if_neg (by omega), if_neg (by omega)]
theorem c5_0 {S : Nat → Int32} {N : Nat} {k r p e z : Int32} : cm5 S N k r p e z 0 = nI (N + 1) := if_pos rfl
theorem c5_own {S : Nat → Int32} {N : Nat} {k r p e z : Int32} : sK (cm5 S N k r p e z) N = k ∧ sP (cm5 S N k r p e z) N = p ∧ sE (cm5 S N k r p e z) N = e ∧ sR (cm5 S N k r p e z) N = r ∧ sC (cm5 S N k r p e z) N = z := by
  refine ⟨?_, ?_, ?_, ?_, ?_⟩
  · unfold sK cm5; rw [if_neg (by omega), if_pos (by omega)]
  · unfold sP cm5; rw [if_neg (by omega), if_neg (by omega), if_pos rfl]
  · unfold sE cm5; rw [if_neg (by omega), if_neg (by omega), if_neg (by omega), if_pos rfl]
  · unfold sR cm5; rw [if_neg (by omega), if_neg (by omega), if_neg (by omega), if_neg (by omega), if_pos rfl]
  · unfold sC cm5; rw [if_neg (by omega), if_neg (by omega), if_neg (by omega), if_neg (by omega), if_neg (by omega), if_pos rfl]
theorem Gd_c5 {S : Nat → Int32} {N : Nat} (h : Gd S N) (h8 : N < 8) {k : Nat} {r p e z : Int32} (hk : k ≤ 5) (hr : 0 ≤ r ∧ r ≤ 7) (hz : z = 0 ∨ z = 1) : Gd (cm5 S N (nI k) r p e z) (N + 1) := by
  obtain ⟨g0, -, g5, g4, g6, go⟩ := h
  refine ⟨c5_0, by omega, by rw [c5_lo (by omega) (by omega)]; exact g5, by rw [c5_lo (by omega) (by omega)]; exact g4, by rw [c5_lo (by omega) (by omega)]; exact g6, fun o ho => ?_⟩
  by_cases q : o = N
  · subst q
    obtain ⟨a1, a2, a3, a4, a5⟩ := c5_own (S := S) (N := o) (k := nI k) (r := r) (p := p) (e := e) (z := z)
    obtain ⟨j, hj, ej, -⟩ := ix_le (n := 7) (by omega) hr
    rw [a1, a4, a5]
    exact ⟨⟨k, hk, rfl⟩, ⟨j, hj, ej⟩, hz⟩
  · have hl : o < N := by omega
    have := go o hl
    unfold sK sR sC at *
    rw [c5_at hl (by omega), c5_at hl (by omega), c5_at hl (by omega)]
    exact this
theorem lt_top2 : ∀ n, n < 8 → ∀ c, c < 2 ^ n → ltC (nI c) (nI n) 0 = nI c ∧ ltC (nI c) (nI n) 1 = nI (c + 2 ^ n) := by decide +kernel
theorem hr_c5 {S : Nat → Int32} {N : Nat} {h v : HC} {k r p e z : Int32} (hH : HR S N h) (h8 : N < 8) (hz : z = 0 ∨ z = 1) (eL : hL v = hL h) (eK : hK v = upd (hK h) N k) (eP : hP v = upd (hP h) N p) (eE : hE v = upd (hE h) N e) (eR : hR v = upd (hR h) N r) (eN : hN v = nI (N + 1)) (eC : hC v = ltC (hC h) (nI N) z) (eM : hM v = hM h) (eZ : hZ v = hZ h) : HR (cm5 S N k r p e z) (N + 1) v := by
  obtain ⟨a, b, c, d, f, g⟩ := hH
  obtain ⟨a1, a2, a3, a4, a5⟩ := c5_own (S := S) (N := N) (k := k) (r := r) (p := p) (e := e) (z := z)
  refine ⟨fun i hi => ?_, fun o ho => ?_, eN.trans c5_0.symm, ?_, ?_, ?_⟩
  · rw [eL, c5_lo (by omega) (by omega)]; exact a i hi
  · by_cases q : o = N
    · subst q
      rw [a1, a2, a3, a4, eK, eP, eE, eR]
      exact ⟨pk_us, pk_us, pk_us, pk_us⟩
    · have hl : o < N := by omega
      have := b o hl
      rw [eK, eP, eE, eR, pk_un q, pk_un q, pk_un q, pk_un q]
      unfold sK sP sE sR at *
      rw [c5_at hl (by omega), c5_at hl (by omega), c5_at hl (by omega), c5_at hl (by omega)]
      exact this
  · rw [eM, c5_lo (by omega) (by omega)]; exact d
  · rw [eZ, c5_lo (by omega) (by omega)]; exact f
  · rw [eC, g]
    unfold clS
    obtain ⟨l0, l1⟩ := lt_top2 N h8 _ (clN_lt S N)
    rw [clN, cl5 N (Nat.le_refl N)]
    unfold clB
    rw [a5]
    rcases hz with rfl | rfl
    · rw [l0, if_neg (by decide), Nat.zero_mul, Nat.add_zero]
    · rw [l1, if_pos rfl, Nat.one_mul]
theorem Gd_it {u : Nat → Int32} {n N f : Nat} {S : Nat → Int32} (hG : Gd S N) (h : f ≤ n) (h0 : (itR u n S N f).1 = 0) : Gd (itR u n S N f).2.2.1 (itR u n S N f).2.2.2 := by
  have hp := pnR_G (u := u) (N := N) h
  unfold itR at *
  by_cases hk : kiN u n f < 6
  · rw [if_pos hk] at *
    by_cases hw : (pnR u n N f).1 = 0
    · rw [if_pos hw]
      obtain ⟨a, b⟩ := hp.2.2.2 hw
      exact Gd_c5 hG (pnR_N hw) (by omega) a b
    · rw [if_neg hw] at *; exact absurd h0 (show ¬ (1 : Int32) = 0 by decide)
  · rw [if_neg hk] at *
    by_cases hl : lwN u n f < 4
    · rw [if_pos hl] at *
      by_cases hb : nbP u n (FB u n (EN u n f)) (tLL.getD (lwN u n f) 0) (tLM.getD (lwN u n f) 0)
      · rw [if_pos hb]
        have e1 := (lw_lo _ hl)
        have e2 := (lw_hi _ hl)
        obtain ⟨-, -, b1, b2⟩ := hb
        refine hG.up (by omega) (fun q => ?_) (fun q => ?_) (fun q => ?_) (fun o _ q => by omega) (fun o _ q => by omega) (fun o _ q => by omega)
        · rw [e1.2 (by omega)] at b1
          rw [e2.2 (by omega)] at b2
          obtain ⟨j, hj, ej, -⟩ := ix_le (n := 9) (by omega) ⟨b1, b2⟩
          exact ⟨j, hj, ej⟩
        · rw [e1.1 (by omega)] at b1
          rw [e2.2 (by omega)] at b2
          obtain ⟨j, hj, ej, -⟩ := ix_le (n := 9) (by omega) ⟨Int32.le_trans (by decide) b1, b2⟩
          rw [ej] at b1
          exact ⟨j, (nI_leI (a := 1) (by omega) (by omega)).mp b1, hj, ej⟩
        · rw [e1.2 (by omega)] at b1
          rw [e2.1 (by omega)] at b2
          obtain ⟨j, hj, ej, -⟩ := ix_le (n := 99) (by omega) ⟨b1, b2⟩
          exact ⟨j, hj, ej⟩
      · rw [if_neg hb] at *; exact absurd h0 (show ¬ (1 : Int32) = 0 by decide)
    · rw [if_neg hl] at *; exact absurd h0 (show ¬ (1 : Int32) = 0 by decide)
/-! the whole TEXT -/
theorem ps_end {u : Nat → Int32} {n k : Nat} {z : Nat × (Nat → Int32) × Nat} (h : kdT u n z.1 = 0) : ∀ k, psL u n k z = (0, z)
  | 0 => rfl
  | k + 1 => by rw [psL, if_pos h]
theorem ps_ok {u : Nat → Int32} {n k : Nat} {z : Nat × (Nat → Int32) × Nat} (h : ¬ kdT u n z.1 = 0) (h2 : (itR u n z.2.1 z.2.2 z.1).1 = 0) : psL u n (k + 1) z = psL u n k (itR u n z.2.1 z.2.2 z.1).2 := by rw [psL, if_neg h, if_pos h2]
theorem ps_bad {u : Nat → Int32} {n k : Nat} {z : Nat × (Nat → Int32) × Nat} (h : ¬ kdT u n z.1 = 0) (h2 : ¬ (itR u n z.2.1 z.2.2 z.1).1 = 0) : psL u n (k + 1) z = (1, (itR u n z.2.1 z.2.2 z.1).2) := by rw [psL, if_neg h, if_neg h2]
theorem Gd_ps {u : Nat → Int32} {n : Nat} : ∀ k (z : Nat × (Nat → Int32) × Nat), z.1 ≤ n → Gd z.2.1 z.2.2 → (psL u n k z).1 = 0 → Gd (psL u n k z).2.2.1 (psL u n k z).2.2.2
  | 0, z, _, h, _ => h
  | k + 1, z, hf, h, h0 => by
    by_cases hk : kdT u n z.1 = 0
    · rw [ps_end (k := 0) hk]; exact h
    · by_cases hi : (itR u n z.2.1 z.2.2 z.1).1 = 0
      · rw [ps_ok hk hi] at *
        exact Gd_ps k _ (it_G hf).2.1 (Gd_it h hf hi) h0
      · rw [ps_bad hk hi] at h0; exact absurd h0 (show ¬ (1 : Int32) = 0 by decide)
theorem Gd_bg (S : Nat → Int32) : Gd (bgS S) 0 := ⟨rfl, by omega, ⟨1, by omega, rfl⟩, ⟨3, by omega, by omega, rfl⟩, ⟨20, by omega, rfl⟩, fun o ho => by omega⟩
theorem Gd_op {u : Nat → Int32} {n : Nat} {S : Nat → Int32} (h0 : (opR u n S).1 = 0) : Gd (opR u n S).2.2.1 (opR u n S).2.2.2 := Gd_ps 201 _ (fb_le (Nat.zero_le n)).2 (Gd_bg S) h0
/-- the row with its first places 0 -/
def zrN (S : Nat → Int32) (i : Nat) : Nat → Int32 := fun k => if k < i then 0 else S k
theorem zr_0 (S : Nat → Int32) : zrN S 0 = S := by
  funext k
  unfold zrN
  rw [if_neg (by omega)]
theorem zr_s (S : Nat → Int32) (i : Nat) : upd (zrN S i) i 0 = zrN S (i + 1) := by
  funext k
  by_cases h : k = i
  · subst h
    rw [pk_us]
    unfold zrN
    rw [if_pos (by omega)]
  · rw [pk_un h]
    unfold zrN
    by_cases h2 : k < i
    · rw [if_pos h2, if_pos (by omega)]
    · rw [if_neg h2, if_neg (by omega)]
theorem zr_bg (S : Nat → Int32) : upd (upd (upd (upd (upd (zrN S 47) 2 (S 2)) 3 2) 4 3) 5 1) 6 20 = bgS S := by
  funext k
  unfold upd zrN bgS
  by_cases h6 : k = 6
  · rw [if_pos h6, if_pos (by omega), if_neg (by omega), if_neg (by omega), if_neg (by omega), if_neg (by omega), if_pos h6]
  · rw [if_neg h6]
    by_cases h5 : k = 5
    · rw [if_pos h5, if_pos (by omega), if_neg (by omega), if_neg (by omega), if_neg (by omega), if_pos h5]
    · rw [if_neg h5]
      by_cases h4 : k = 4
      · rw [if_pos h4, if_pos (by omega), if_neg (by omega), if_neg (by omega), if_pos h4]
      · rw [if_neg h4]
        by_cases h3 : k = 3
        · rw [if_pos h3, if_pos (by omega), if_neg (by omega), if_pos h3]
        · rw [if_neg h3]
          by_cases h2 : k = 2
          · rw [if_pos h2, if_pos (by omega), if_pos h2]
          · rw [if_neg h2, if_neg h2, if_neg h3, if_neg h4, if_neg h5, if_neg h6]
theorem bg_hi {S : Nat → Int32} {k : Nat} (h : 47 ≤ k) : bgS S k = S k := if_neg (by omega)
theorem ps_go {u : Nat → Int32} {n k : Nat} {z : Nat × (Nat → Int32) × Nat} (hk : 1 ≤ k) (h : ¬ kdT u n z.1 = 0) (h2 : (itR u n z.2.1 z.2.2 z.1).1 = 0) : psL u n k z = psL u n (k - 1) (itR u n z.2.1 z.2.2 z.1).2 := by
  obtain ⟨k', rfl⟩ : ∃ k', k = k' + 1 := ⟨k - 1, by omega⟩
  exact ps_ok h h2
theorem ps_bd {u : Nat → Int32} {n k : Nat} {z : Nat × (Nat → Int32) × Nat} (hk : 1 ≤ k) (h : ¬ kdT u n z.1 = 0) (h2 : ¬ (itR u n z.2.1 z.2.2 z.1).1 = 0) : psL u n k z = (1, (itR u n z.2.1 z.2.2 z.1).2) := by
  obtain ⟨k', rfl⟩ : ∃ k', k = k' + 1 := ⟨k - 1, by omega⟩
  exact ps_bad h h2
def opI (u : Nat → Int32) (n : Nat) (S : Nat → Int32) (f : Nat) (w : Int32) (T : Nat → Int32) (M k : Nat) : Prop := (w = 0 ∧ 1 ≤ k ∧ 201 - k ≤ f ∧ opR u n S = psL u n k (f, T, M) ∧ Gd T M) ∨ (¬ w = 0 ∧ (opR u n S).1 = 1 ∧ (opR u n S).2.1 = f)
theorem op_0 (u : Nat → Int32) (n : Nat) (S : Nat → Int32) : opI u n S (FB u n 0) 0 (bgS S) 0 201 := Or.inl ⟨rfl, by omega, by omega, rfl, Gd_bg S⟩
theorem op_back {u : Nat → Int32} {n : Nat} {S T T' : Nat → Int32} {f M k : Nat} {w : Int32} (hI : opI u n S f w T M k) (hw : w = 0) (hk0 : ¬ kdT u n f = 0) (hf : f ≤ n) (hn : n ≤ 200) (hT : (itR u n T M f).1 = 0 → T' = (itR u n T M f).2.2.1) : opI u n S (itR u n T M f).2.1 (itR u n T M f).1 T' (itR u n T M f).2.2.2 (k - 1) := by
  obtain ⟨-, h1, h2, h3, h4⟩ := hI.resolve_right (fun h => h.1 hw)
  obtain ⟨g1, g2, g3⟩ := it_G (u := u) (N := M) (S := T) hf
  by_cases h0 : (itR u n T M f).1 = 0
  · have h5 := g3 h0
    refine Or.inl ⟨h0, by omega, by omega, ?_, ?_⟩
    · rw [h3, ps_go h1 (z := (f, T, M)) hk0 h0, hT h0]
    · rw [hT h0]; exact Gd_it h4 hf h0
  · refine Or.inr ⟨h0, ?_, ?_⟩
    · rw [h3, ps_bd h1 (z := (f, T, M)) hk0 h0]
    · rw [h3, ps_bd h1 (z := (f, T, M)) hk0 h0]
theorem op_end {u : Nat → Int32} {n : Nat} {S T : Nat → Int32} {f M k : Nat} {w : Int32} (hI : opI u n S f w T M k) (hw : w = 0) (hk0 : kdT u n f = 0) : opR u n S = (0, f, T, M) ∧ Gd T M := by
  obtain ⟨-, h1, h2, h3, h4⟩ := hI.resolve_right (fun h => h.1 hw)
  exact ⟨h3.trans (ps_end (k := 0) (z := (f, T, M)) hk0 k), h4⟩
theorem op_bad {u : Nat → Int32} {n : Nat} {S T : Nat → Int32} {f M k : Nat} {w : Int32} (hI : opI u n S f w T M k) (hw : ¬ w = 0) : ¬ (opR u n S).1 = 0 ∧ (opR u n S).2.1 = f := by
  obtain ⟨-, h1, h2⟩ := hI.resolve_left (fun h => hw h.1)
  exact ⟨by rw [h1]; decide, h2⟩
theorem op_G {u : Nat → Int32} {n : Nat} {S T : Nat → Int32} {f M k : Nat} (hI : opI u n S f 0 T M k) : Gd T M := (hI.resolve_right (fun h => h.1 rfl)).2.2.2.2
theorem op_back0 {u : Nat → Int32} {n : Nat} {S T : Nat → Int32} {f M i : Nat} (hI : opI u n S f 0 T M (201 - i)) (hk0 : ¬ kdT u n f = 0) (hf : f ≤ n) (hn : n ≤ 200) (h0 : (itR u n T M f).1 = 0) (hi : i < 201) : opI u n S (itR u n T M f).2.1 0 (itR u n T M f).2.2.1 (itR u n T M f).2.2.2 (201 - (i + 1)) := by
  have h := op_back (T' := (itR u n T M f).2.2.1) hI rfl hk0 hf hn (fun _ => rfl)
  rw [h0, show 201 - i - 1 = 201 - (i + 1) by omega] at h
  exact h
theorem lw_lo2 {l : Nat} {x : Int32} (h4 : l < 4) (h : tLL.getD l 0 ≤ x) : 0 ≤ x := by
  have a := lw_lo l h4
  by_cases q : l = 1
  · rw [a.1 q] at h; exact Int32.le_trans (by decide) h
  · rw [a.2 q] at h; exact h
theorem ki_m1 {k : Nat} (h : k ≤ 6) : ¬ nI k = -1 := by
  have : ∀ k, k < 7 → ¬ nI k = -1 := by decide +kernel
  exact this k (by omega)
theorem cpy_LF {g : Nat → Int32} {k : Nat} (h : k < 4) : va_cpy (fun z => tLF.getD z 0) g 0 0 4 k = tLF.getD k 0 := by
  rw [pk_cpy_in (by omega) (by omega)]
  simp
theorem hr_bg {S : Nat → Int32} {h : HC} (eL : ∀ k, k < 4 → hL h k = tLF.getD k 0) (eN : hN h = 0) (eC : hC h = 0) (eM : hM h = 0) (eZ : hZ h = S 2) : HR (bgS S) 0 h := by
  refine ⟨fun k hk => ?_, fun o ho => absurd ho (Nat.not_lt_zero o), eN, eM, eZ, eC⟩
  rw [eL k hk]
  have h4 : k = 0 ∨ k = 1 ∨ k = 2 ∨ k = 3 := by omega
  rcases h4 with rfl | rfl | rfl | rfl <;> rfl
theorem ps_le {u : Nat → Int32} {n : Nat} : ∀ k (z : Nat × (Nat → Int32) × Nat), z.1 ≤ n → (psL u n k z).2.1 ≤ n
  | 0, z, hf => hf
  | k + 1, z, hf => by
    by_cases hk : kdT u n z.1 = 0
    · rw [ps_end (k := 0) hk]; exact hf
    · by_cases hi : (itR u n z.2.1 z.2.2 z.1).1 = 0
      · rw [ps_ok hk hi]; exact ps_le k _ (it_G hf).2.1
      · rw [ps_bad hk hi]; exact (it_G hf).2.1
theorem op_m1 {u : Nat → Int32} {n : Nat} {S : Nat → Int32} (hn : n ≤ 200) (h : (if (opR u n S).1 = 0 then (-1 : Int32) else nI (opR u n S).2.1) = -1) : (opR u n S).1 = 0 := by
  by_cases q : (opR u n S).1 = 0
  · exact q
  · rw [if_neg q] at h
    have h2 : (opR u n S).2.1 ≤ n := ps_le 201 _ (fb_le (Nat.zero_le n)).2
    have h3 := nI_pos (n := (opR u n S).2.1) (by omega)
    rw [h] at h3
    exact absurd (by decide) h3
/-! FEED: the bytes of eight -/
theorem ss_mod (b : BitVec 64) (k : Nat) (hk : k ≤ 56) : (b.sshiftRight k).toNat % 2 ^ 8 = b.toNat / 2 ^ k % 2 ^ 8 := by
  apply Nat.eq_of_testBit_eq
  intro j
  rw [Nat.testBit_mod_two_pow, Nat.testBit_mod_two_pow, Nat.testBit_div_two_pow]
  by_cases hj : j < 8
  · have h1 := BitVec.getLsbD_sshiftRight b k j
    have h2 : ¬ 64 ≤ j := by omega
    have h3 : k + j < 64 := by omega
    simp only [h2, h3, decide_false, Bool.not_false, Bool.true_and, if_true] at h1
    rw [BitVec.testBit_toNat, BitVec.testBit_toNat, h1, Nat.add_comm j k]
  · simp [hj]
theorem l_shr (a s : Int64) (k : Nat) (hs : (s.toBitVec.smod 64).toNat = k) : (a >>> s).toBitVec = a.toBitVec.sshiftRight k := by
  show a.toBitVec.sshiftRight (s.toBitVec.smod 64).toNat = _
  rw [hs]
theorem l_ushr (x s : Int64) (k : Nat) (hs : ((s.toUInt64 &&& Int64.toUInt64 63).toBitVec % 64).toNat = k) : (x.toUInt64 >>> (s.toUInt64 &&& Int64.toUInt64 63)).toInt64.toBitVec.toNat = x.toBitVec.toNat / 2 ^ k := by
  have e : (x.toUInt64 >>> (s.toUInt64 &&& Int64.toUInt64 63)).toInt64.toBitVec = x.toBitVec >>> k := by
    rw [← hs]
    exact UInt64.toBitVec_shiftRight _ _
  rw [e, BitVec.toNat_ushiftRight, Nat.shiftRight_eq_div_pow]
theorem l_32 (z : Int64) : z.toInt32.toBitVec.toNat % 2 ^ 8 = z.toBitVec.toNat % 2 ^ 8 := by
  rw [Int64.toBitVec_toInt32, BitVec.signExtend_eq_setWidth_of_le _ (by omega), BitVec.toNat_setWidth]
  omega
theorem i_8 (z : Int32) : z.toInt8.toBitVec.toNat = z.toBitVec.toNat % 2 ^ 8 := by
  show (z.toBitVec.signExtend 8).toNat = _
  rw [BitVec.signExtend_eq_setWidth_of_le _ (by omega), BitVec.toNat_setWidth]
theorem sb_8 : ∀ m, m < 256 → (Int8.ofBitVec (BitVec.ofNat 8 m)).toInt32 = sbB m := by decide +kernel
def fbV (x : Int64) (i : Nat) : Int32 := (((x.toUInt64 >>> ((8 * nI i).toInt64.toUInt64 &&& Int64.toUInt64 63)).toInt64).toInt32).toInt8.toInt32
theorem fd_bits {x : Int64} {i : Nat} (hi : i < 8) : ∃ m, m < 256 ∧ fdV x i = nI m ∧ fbV x i = sbB m := by
  have h8 : ∀ i, i < 8 → (((8 * nI i).toInt64 &&& 63).toBitVec.smod 64).toNat = 8 * i ∧ (((8 * nI i).toInt64.toUInt64 &&& Int64.toUInt64 63).toBitVec % 64).toNat = 8 * i := by decide +kernel
  obtain ⟨s1, s2⟩ := h8 i hi
  refine ⟨x.toBitVec.toNat / 2 ^ (8 * i) % 2 ^ 8, Nat.mod_lt _ (by decide), ?_, ?_⟩
  · unfold fdV
    rw [Int64.toInt32_and, pk_and _ 8 (by decide), l_32, l_shr _ _ _ s1, ss_mod _ _ (by omega)]
  · unfold fbV
    rw [← sb_8 _ (Nat.mod_lt _ (by decide))]
    congr 1
    apply Int8.toBitVec_inj.mp
    apply BitVec.eq_of_toNat_eq
    rw [i_8, l_32, l_ushr _ _ _ s2]
    show _ = (BitVec.ofNat 8 _).toNat
    rw [BitVec.toNat_ofNat, Nat.mod_mod]
theorem tp_step {f u : Nat → Int32} {n i : Nat} {x : Int64} (h : TPR f (fdR u n x i) (n + i)) (hi : i < 8) : TPR (upd f (n + i) (vp_nar .byte (fbV x i))) (fdR u n x (i + 1)) (n + (i + 1)) := by
  intro k hk
  rw [fdR]
  by_cases e : k = n + i
  · subst e
    obtain ⟨m, hm, e1, e2⟩ := fd_bits (x := x) hi
    refine ⟨m, hm, ?_, ?_⟩
    · rw [pk_us, e1]
    · rw [pk_us, ← e2]; exact pk_vb _
  · obtain ⟨m, hm, e1, e2⟩ := h k (by omega)
    exact ⟨m, hm, by rw [pk_un e, e1], by rw [pk_un e, e2]⟩
theorem TPU_fd {u : Nat → Int32} {n : Nat} {x : Int64} (h : TPU u n) : ∀ i, i ≤ 8 → TPU (fdR u n x i) (n + i)
  | 0, _ => h
  | i + 1, hi => fun k hk => by
    rw [fdR]
    by_cases e : k = n + i
    · subst e
      obtain ⟨m, hm, e1, -⟩ := fd_bits (x := x) (i := i) (by omega)
      exact ⟨m, hm, by rw [pk_us, e1]⟩
    · obtain ⟨m, hm, e1⟩ := TPU_fd h i (by omega) k (by omega)
      exact ⟨m, hm, by rw [pk_un e, e1]⟩
