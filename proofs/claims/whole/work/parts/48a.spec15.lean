/-! SHEETS IN THE LAW: cells brought forward, what a call on a sheet or a shelf does to both sides -/
theorem pm_4 {α : Type} (a b x d : α) (L : List α) : (a :: b :: x :: d :: L).Perm (x :: d :: a :: b :: L) := ((List.Perm.swap x b (d :: L)).cons a).trans ((List.Perm.swap x a (b :: d :: L)).trans ((((List.Perm.swap d b L).cons a).cons x).trans ((List.Perm.swap d a (b :: L)).cons x)))
theorem pw_pm {q : Nat → ClassId} {P P' : List PE} (h : P.Perm P') : (pw q P).Perm (pw q P') := by
  induction h with
  | nil => exact List.Perm.refl _
  | cons x _ ih => exact (ih.cons _).cons _
  | swap x y w => exact pm_4 _ _ _ _ _
  | trans _ _ ih1 ih2 => exact ih1.trans ih2
theorem pw_app {q : Nat → ClassId} : ∀ (A B : List PE), pw q (A ++ B) = pw q A ++ pw q B
  | [], _ => rfl
  | x :: A, B => by
    show _ :: _ :: pw q (A ++ B) = _ :: _ :: (pw q A ++ pw q B)
    rw [pw_app A B]
theorem pw_in {q : Nat → ClassId} {x : PE} : ∀ (P : List PE), x ∈ P → ∃ d, d ∈ pw q P ∧ d.1 = x.1
  | [], h => nomatch h
  | y :: P, h => by
    rcases List.mem_cons.mp h with h1 | h1
    · refine ⟨(y.1, .inr (1, [.int y.2.2.1, .ref y.2.1])), List.mem_cons.mpr (Or.inl rfl), ?_⟩
      rw [h1]
    · obtain ⟨d, h2, h3⟩ := pw_in P h1
      exact ⟨d, List.mem_cons_of_mem _ (List.mem_cons_of_mem _ h2), h3⟩
theorem ex_pm {P : List PE} {x : PE} (h : x ∈ P) : ∃ Q, P.Perm (x :: Q) := by
  obtain ⟨P1, P2, h2⟩ := List.append_of_mem h
  exact ⟨P1 ++ P2, by rw [h2]; exact List.perm_middle⟩
theorem pr_out {q : Nat → ClassId} {P Q : List PE} {xa ya n : Nat} {so : Int32} {f : Nat → Int64} (h : P.Perm ((xa, ya, so, n, f) :: Q)) (w1 w2 w3 w4 w5 w6 M : va_W) : ((w1 ++ (w2 ++ (w3 ++ (w4 ++ (w5 ++ w6))))) ++ (pw q P ++ M)).Perm ((w1 ++ (w2 ++ (w3 ++ (w4 ++ (w5 ++ (w6 ++ (([(xa, .inr (1, [.int so, .ref ya]))] : va_W) ++ (([(ya, aJ (q 3) n f)] : va_W))))))))) ++ (pw q Q ++ M)) := by
  have h1 : ((w1 ++ (w2 ++ (w3 ++ (w4 ++ (w5 ++ w6))))) ++ (pw q P ++ M)).Perm ((w1 ++ (w2 ++ (w3 ++ (w4 ++ (w5 ++ w6))))) ++ (pw q ((xa, ya, so, n, f) :: Q) ++ M)) := ((pw_pm h).append_right M).append_left _
  refine h1.trans (List.Perm.of_eq ?_)
  have h2 : pw q ((xa, ya, so, n, f) :: Q) = (([(xa, .inr (1, [.int so, .ref ya]))] : va_W) ++ ((([(ya, aJ (q 3) n f)] : va_W)) ++ pw q Q)) := rfl
  rw [h2]
  simp only [List.append_assoc]
theorem w_app {q : Nat → ClassId} {P Q : List PE} (w1 w2 w3 w4 w5 w6 M : va_W) : (w1 ++ (w2 ++ (w3 ++ (w4 ++ (w5 ++ (w6 ++ pw q Q)))))) ++ (pw q P ++ M) = (w1 ++ (w2 ++ (w3 ++ (w4 ++ (w5 ++ w6))))) ++ (pw q (Q ++ P) ++ M) := by
  rw [pw_app]
  simp only [List.append_assoc]
theorem far_new {q : Nat → ClassId} {P Q : List PE} {w1 w2 w3 w4 w5 w6 M : va_W} (far : ∀ (i j : Nat) (x y : Nat × va_E), (w1 ++ (w2 ++ (w3 ++ (w4 ++ (w5 ++ (w6 ++ pw q Q))))))[i]? = some x → (pw q P ++ M)[j]? = some y → x.1 ≠ y.1) : ∀ a, a ∈ Q → ∀ b, b ∈ P → a.1 ≠ b.1 := by
  intro a ha b hb
  obtain ⟨d1, h1, e1⟩ := pw_in (q := q) Q ha
  obtain ⟨d2, h2, e2⟩ := pw_in (q := q) P hb
  obtain ⟨i, hi⟩ := List.getElem?_of_mem (show d1 ∈ w1 ++ (w2 ++ (w3 ++ (w4 ++ (w5 ++ (w6 ++ pw q Q))))) from List.mem_append_right _ (List.mem_append_right _ (List.mem_append_right _ (List.mem_append_right _ (List.mem_append_right _ (List.mem_append_right _ h1))))))
  obtain ⟨j, hj⟩ := List.getElem?_of_mem (show d2 ∈ pw q P ++ M from List.mem_append_left _ h2)
  rw [← e1, ← e2]
  exact far i j d1 d2 hi hj
theorem ShJ.mono {P P' : List PE} (hm : ∀ x, x ∈ P → x ∈ P') {x : Option Nat} {so mn : Int32} {M : Nat → Int32} (h : ShJ P x so mn M) : ShJ P' x so mn M := by
  rcases h with h | ⟨xa, ya, n, f, h1, h2, h3⟩
  · exact Or.inl h
  · exact Or.inr ⟨xa, ya, n, f, h1, hm _ h2, h3⟩
theorem SvJ.mono {P P' : List PE} (hm : ∀ x, x ∈ P → x ∈ P') {x : Option Nat} {W Wh Wm : Int32} (h : SvJ P x W Wh Wm) : SvJ P' x W Wh Wm := by
  rcases h with h | ⟨xa, ya, n, f, h1, h2, h3⟩
  · exact Or.inl h
  · exact Or.inr ⟨xa, ya, n, f, h1, hm _ h2, h3⟩
theorem LR.mono {o : OC} {h1 h3 : HC} {t : TC} {g : GC} {P P' : List PE} {v : MC} {N n rn c0 : Nat} (r : LR o h1 h3 t g P v N n rn c0) (hm : ∀ x, x ∈ P → x ∈ P') : LR o h1 h3 t g P' v N n rn c0 := ⟨r.gd, r.hr, r.kp, r.kh, r.tl, r.tm, r.n2, r.tu, r.tb, r.ro, r.rc, r.rm, r.r1, r.gb, r.gn, r.mn, r.c3, r.sg, fun j hj => (r.sh j hj).mono hm, r.sd, r.sp, fun j hj => (r.sv j hj).mono hm⟩
theorem sh_cs {o : OC} {h1 h3 : HC} {t : TC} {g : GC} {P : List PE} {v : MC} {N n rn c0 : Nat} (r : LR o h1 h3 t g P v N n rn c0) (x : Int32) : (∀ j, j < 4 → x = nI j → (o_sheets o) j = none) ∨ ∃ j xa ya nn ff, j < 4 ∧ x = nI j ∧ (o_sheets o) j = some xa ∧ (xa, ya, m_sortOf v j, nn, ff) ∈ P ∧ (0 ≤ m_sortOf v j ∧ m_sortOf v j ≤ 3) ∧ nn ≤ 40 ∧ m_sizeOf v j = nI nn ∧ ∀ k2, k2 < nn → ff k2 = (m_numbers v (40 * j + k2)).toInt64 := by
  by_cases h : ∃ j, j < 4 ∧ x = nI j ∧ ¬ (o_sheets o) j = none
  · obtain ⟨j, hj, ej, hn⟩ := h
    rcases r.sh j hj with ⟨a, _⟩ | ⟨xa, ya, nn, ff, e1, e2, e3, e4, e5, e6⟩
    · exact absurd a hn
    · exact Or.inr ⟨j, xa, ya, nn, ff, hj, ej, e1, e2, e3, e4, e5, e6⟩
  · exact Or.inl (fun j hj ej => Classical.byContradiction (fun z => h ⟨j, hj, ej, z⟩))
theorem sv_cs {o : OC} {h1 h3 : HC} {t : TC} {g : GC} {P : List PE} {v : MC} {N n rn c0 : Nat} (r : LR o h1 h3 t g P v N n rn c0) (x : Int32) : (∀ j, j < 4 → x = nI j → (o_shelvedRows o) j = none) ∨ ∃ j xa ya nn ff, j < 4 ∧ x = nI j ∧ (o_shelvedRows o) j = some xa ∧ (xa, ya, m_holdsWhich v j, nn, ff) ∈ P ∧ m_holdsWhat v j = 2 ∧ nn ≤ 40 ∧ m_holdsMany v j = nI nn := by
  by_cases h : ∃ j, j < 4 ∧ x = nI j ∧ ¬ (o_shelvedRows o) j = none
  · obtain ⟨j, hj, ej, hn⟩ := h
    rcases r.sv j hj with ⟨a, _⟩ | ⟨xa, ya, nn, ff, e1, e2, e3, e4, e5⟩
    · exact absurd a hn
    · exact Or.inr ⟨j, xa, ya, nn, ff, hj, ej, e1, e2, e3, e4, e5⟩
  · exact Or.inl (fun j hj ej => Classical.byContradiction (fun z => h ⟨j, hj, ej, z⟩))
theorem sh_no {o : OC} {h1 h3 : HC} {t : TC} {g : GC} {P : List PE} {v : MC} {N n rn c0 : Nat} (r : LR o h1 h3 t g P v N n rn c0) {x : Int32} (hno : ∀ j, j < 4 → x = nI j → (o_sheets o) j = none) (h : 0 ≤ x ∧ x ≤ 3) : m_sortOf v x.toNatClampNeg = -1 := by
  obtain ⟨j, hj, ej, ec⟩ := ix_le (n := 3) (by omega) h
  rw [ec]
  rcases r.sh j (by omega) with ⟨_, a⟩ | ⟨xa, ya, nn, ff, e1, _⟩
  · exact a
  · exact absurd (e1.symm.trans (hno j (by omega) ej)) (fun z => by cases z)
theorem sv_no {o : OC} {h1 h3 : HC} {t : TC} {g : GC} {P : List PE} {v : MC} {N n rn c0 : Nat} (r : LR o h1 h3 t g P v N n rn c0) {x : Int32} (hno : ∀ j, j < 4 → x = nI j → (o_shelvedRows o) j = none) : ∀ j, j < 4 → x = nI j → m_holdsWhat v j = 0 ∨ m_holdsWhat v j = 1 := by
  intro j hj ej
  rcases r.sv j hj with ⟨_, a⟩ | ⟨xa, ya, nn, ff, e1, _⟩
  · exact a
  · exact absurd (e1.symm.trans (hno j hj ej)) (fun z => by cases z)
theorem jx_in {x : Int32} {j : Nat} (hj : j < 4) (ex : x = nI j) : (0 ≤ x ∧ x ≤ 3) ∧ x.toNatClampNeg = j := by
  subst ex
  exact ⟨⟨nI_pos' (by omega), nI_le (b := 3) (by omega) (by omega)⟩, nI_clamp (by omega)⟩
theorem la_N {T : Nat → Int32} {j : Nat} {y : Int32} (h : T j = -1) : laS T j y = -11 := by
  unfold laS
  rw [h, if_pos (show (-1 : Int32) < 0 by decide)]
theorem la_0 {T : Nat → Int32} {j : Nat} {y : Int32} (h : 0 ≤ T j) (e : T j = y) : laS T j y = 0 := by
  unfold laS
  rw [if_neg (Int32.not_lt.mpr h), if_neg (show ¬ ¬ T j = y from fun z => z e)]
theorem la_1 {T : Nat → Int32} {j : Nat} {y : Int32} (h : 0 ≤ T j) (e : ¬ T j = y) : laS T j y = -13 := by
  unfold laS
  rw [if_neg (Int32.not_lt.mpr h), if_pos e]
theorem put_N {T Z M : Nat → Int32} {x y z : Int32} (h : (0 ≤ x ∧ x ≤ 3) → T x.toNatClampNeg = -1) : R_put T Z x y = (if 0 ≤ x ∧ x ≤ 3 then -11 else -1) ∧ M_put T Z M x y z = M := by
  by_cases hx : 0 ≤ x ∧ x ≤ 3
  · have hl : T x.toNatClampNeg < 0 := by rw [h hx]; decide
    have hg : ¬ puG T Z x y := fun z2 => z2.2.1 hl
    refine ⟨?_, ?_⟩
    · unfold R_put
      rw [if_pos hx, if_pos hx, if_pos hl]
    · unfold M_put
      rw [if_neg hg]
  · have hg : ¬ puG T Z x y := fun z2 => hx z2.1
    refine ⟨?_, ?_⟩
    · unfold R_put
      rw [if_neg hx, if_neg hx]
    · unfold M_put
      rw [if_neg hg]
theorem item_N {T Z M : Nat → Int32} {x y z : Int32} (h : (0 ≤ x ∧ x ≤ 3) → T x.toNatClampNeg = -1) : R_item T Z M x y z = if (0 ≤ x ∧ x ≤ 3) ∧ (0 ≤ y ∧ y ≤ 3) then -11 else -1 := by
  unfold R_item
  by_cases hx : (0 ≤ x ∧ x ≤ 3) ∧ (0 ≤ y ∧ y ≤ 3)
  · rw [if_pos hx, if_pos hx, la_N (h hx.1), if_pos (show ¬ (-11 : Int32) = 0 by decide)]
  · rw [if_neg hx, if_neg hx]
theorem minds_N {S T Z M : Nat → Int32} {x y z w : Int32} (h : (0 ≤ x ∧ x ≤ 3) → T x.toNatClampNeg = -1) : R_minds S T Z x y z w = (if miG S x y z w then -11 else -1) ∧ S_minds S T Z M x y z w = S := by
  refine ⟨?_, ?_⟩
  · unfold R_minds
    by_cases hx : miG S x y z w
    · rw [if_pos hx, if_pos hx, la_N (h hx.1), if_pos (show ¬ (-11 : Int32) = 0 by decide)]
    · rw [if_neg hx, if_neg hx]
  · unfold S_minds
    have hg : ¬ miH S T Z x y z w := fun z2 => absurd ((la_N (y := 0) (h z2.1.1)).symm.trans z2.2.1) (by decide)
    rw [if_neg hg]
theorem fits_N {S T Z M : Nat → Int32} {N : Nat} {x y z : Int32} (h : (0 ≤ x ∧ x ≤ 3) → T x.toNatClampNeg = -1) : R_fits S T Z M N x y z = if fiG S x y z then -11 else -1 := by
  unfold R_fits
  by_cases hx : fiG S x y z
  · have hl : T x.toNatClampNeg < 0 := by rw [h hx.1]; decide
    rw [if_pos hx, if_pos hx, if_pos hl]
  · rw [if_neg hx, if_neg hx]
theorem put_S {T Z M : Nat → Int32} {x y z : Int32} {j n : Nat} (hj : j < 4) (ex : x = nI j) (hT : 0 ≤ T j ∧ T j ≤ 3) (hZ : Z j = nI n) : R_put T Z x y = (if 0 ≤ y ∧ y ≤ nI n - 1 then 1 else -12) ∧ M_put T Z M x y z = (if 0 ≤ y ∧ y ≤ nI n - 1 then upd M (40 * j + y.toNatClampNeg) (nwS (T j) z) else M) := by
  obtain ⟨hx, ec⟩ := jx_in hj ex
  have hl : ¬ T x.toNatClampNeg < 0 := by rw [ec]; exact Int32.not_lt.mpr hT.1
  refine ⟨?_, ?_⟩
  · unfold R_put
    rw [if_pos hx, if_neg hl, ec, hZ]
  · unfold M_put
    by_cases hy : 0 ≤ y ∧ y ≤ nI n - 1
    · have hg : puG T Z x y := ⟨hx, hl, by rw [ec, hZ]; exact hy⟩
      rw [if_pos hg, if_pos hy, ec]
    · have hg : ¬ puG T Z x y := fun z2 => hy (by have h2 := z2.2.2; rw [ec, hZ] at h2; exact h2)
      rw [if_neg hg, if_neg hy]
theorem item_S {T Z M : Nat → Int32} {x y z : Int32} {j n : Nat} (hj : j < 4) (ex : x = nI j) (hT : 0 ≤ T j ∧ T j ≤ 3) (hZ : Z j = nI n) : R_item T Z M x y z = if 0 ≤ y ∧ y ≤ 3 then (if T j = y then (if 0 ≤ z ∧ z ≤ nI n - 1 then M (40 * j + z.toNatClampNeg) else -12) else -13) else -1 := by
  obtain ⟨hx, ec⟩ := jx_in hj ex
  unfold R_item
  by_cases hy : 0 ≤ y ∧ y ≤ 3
  · rw [if_pos (show (0 ≤ x ∧ x ≤ 3) ∧ (0 ≤ y ∧ y ≤ 3) from ⟨hx, hy⟩), if_pos hy, ec, hZ]
    by_cases hs : T j = y
    · rw [la_0 hT.1 hs, if_neg (show ¬ ¬ (0 : Int32) = 0 from fun z2 => z2 rfl), if_pos hs]
    · rw [la_1 hT.1 hs, if_pos (show ¬ (-13 : Int32) = 0 by decide), if_neg hs]
  · rw [if_neg (show ¬ ((0 ≤ x ∧ x ≤ 3) ∧ (0 ≤ y ∧ y ≤ 3)) from fun z2 => hy z2.2), if_neg hy]
theorem minds_S {S T Z M : Nat → Int32} {x y z w : Int32} {j n : Nat} (hj : j < 4) (ex : x = nI j) (hT : 0 ≤ T j ∧ T j ≤ 3) (hn : n ≤ 40) (hZ : Z j = nI n) : R_minds S T Z x y z w = (if miG S (nI j) y z w then (if T j = 0 then (if (0 ≤ y ∧ y ≤ nI n) ∧ y.toNatClampNeg + w.toNatClampNeg ≤ n then w else -12) else -13) else -1) ∧ S_minds S T Z M x y z w = (if (miG S (nI j) y z w ∧ T j = 0 ∧ (0 ≤ y ∧ y ≤ nI n) ∧ y.toNatClampNeg + w.toNatClampNeg ≤ n) then miL S (fun k2 => M (40 * j + k2)) z.toNatClampNeg y.toNatClampNeg w.toNatClampNeg else S) := by
  subst ex
  have ec : (nI j).toNatClampNeg = j := nI_clamp (by omega)
  have en : (nI n).toNatClampNeg = n := nI_clamp (by omega)
  refine ⟨?_, ?_⟩
  · unfold R_minds
    by_cases hg : miG S (nI j) y z w
    · rw [if_pos hg, if_pos hg, ec, hZ, en]
      by_cases hs : T j = 0
      · rw [la_0 hT.1 hs, if_neg (show ¬ ¬ (0 : Int32) = 0 from fun z2 => z2 rfl), if_pos hs]
      · rw [la_1 hT.1 hs, if_pos (show ¬ (-13 : Int32) = 0 by decide), if_neg hs]
    · rw [if_neg hg, if_neg hg]
  · unfold S_minds
    by_cases hh : (miG S (nI j) y z w ∧ T j = 0 ∧ (0 ≤ y ∧ y ≤ nI n) ∧ y.toNatClampNeg + w.toNatClampNeg ≤ n)
    · have hm : miH S T Z (nI j) y z w := ⟨hh.1, by rw [ec]; exact la_0 hT.1 hh.2.1, by rw [ec, hZ]; exact hh.2.2.1, by rw [ec, hZ, en]; exact hh.2.2.2⟩
      rw [if_pos hm, if_pos hh, ec]
    · have hm : ¬ miH S T Z (nI j) y z w := fun z2 => hh (by
        obtain ⟨a1, a2, a3, a4⟩ := z2
        rw [ec] at a2
        rw [ec, hZ] at a3
        rw [ec, hZ, en] at a4
        refine ⟨a1, Decidable.byContradiction (fun z3 => ?_), a3, a4⟩
        rw [la_1 hT.1 z3] at a2
        exact absurd a2 (by decide))
      rw [if_neg hm, if_neg hh]
theorem fits_S {S T Z M : Nat → Int32} {N : Nat} {x y z : Int32} {j n : Nat} (hj : j < 4) (ex : x = nI j) (hT : 0 ≤ T j ∧ T j ≤ 3) (hn : n ≤ 40) (hZ : Z j = nI n) : R_fits S T Z M N x y z = if fiG S (nI j) y z then R_fiC S (fun k2 => M (40 * j + k2)) N n y z else -1 := by
  subst ex
  have ec : (nI j).toNatClampNeg = j := nI_clamp (by omega)
  have en : (nI n).toNatClampNeg = n := nI_clamp (by omega)
  unfold R_fits
  by_cases hg : fiG S (nI j) y z
  · rw [if_pos hg, if_pos hg, ec, hZ, en, if_neg (Int32.not_lt.mpr hT.1)]
  · rw [if_neg hg, if_neg hg]
theorem put_nm {f f' : Nat → Int64} {M M' : Nat → Int32} {j n : Nat} {y w : Int32} (hn : n ≤ 40) (hf : ∀ k2, k2 < n → f k2 = (M (40 * j + k2)).toInt64) (e1 : f' = if 0 ≤ y ∧ y ≤ nI n - 1 then vp_updL f y.toNatClampNeg w.toInt64 else f) (e2 : M' = if 0 ≤ y ∧ y ≤ nI n - 1 then upd M (40 * j + y.toNatClampNeg) w else M) : (∀ k2, k2 < n → f' k2 = (M' (40 * j + k2)).toInt64) ∧ ∀ i k2, k2 < 40 → i ≠ j → M' (40 * i + k2) = M (40 * i + k2) := by
  by_cases hy : 0 ≤ y ∧ y ≤ nI n - 1
  · obtain ⟨b, hb, eb, ebc⟩ := ix_lt (n := n) (by omega) ⟨hy.1, (le_pred2 (by omega)).mp hy.2⟩
    rw [if_pos hy, ebc] at e1 e2
    subst e1
    subst e2
    refine ⟨fun k2 hk => ?_, fun i k2 hk hi => pk_un (by omega)⟩
    by_cases ek : k2 = b
    · rw [ek, pk_us]
      exact if_pos rfl
    · rw [pk_un (by omega)]
      exact (if_neg ek).trans (hf k2 hk)
  · rw [if_neg hy] at e1 e2
    subst e1
    subst e2
    exact ⟨hf, fun _ _ _ _ => rfl⟩
theorem put_sh {P Q : List PE} {sh : Nat → Option Nat} {T Z M M' : Nat → Int32} {xa ya n j : Nat} {f f' : Nat → Int64} (hsh : ∀ i, i < 4 → ShJ P (sh i) (T i) (Z i) (fun k2 => M (40 * i + k2))) (hsd : ∀ i j x, i < 4 → j < 4 → sh i = some x → sh j = some x → i = j) (hj : j < 4) (hs : sh j = some xa) (hp : P.Perm ((xa, ya, T j, n, f) :: Q)) (hT : 0 ≤ T j ∧ T j ≤ 3) (hn : n ≤ 40) (hZ : Z j = nI n) (hA : ∀ k2, k2 < n → f' k2 = (M' (40 * j + k2)).toInt64) (hB : ∀ i k2, k2 < 40 → i ≠ j → M' (40 * i + k2) = M (40 * i + k2)) : ∀ i, i < 4 → ShJ ((xa, ya, T j, n, f') :: Q) (sh i) (T i) (Z i) (fun k2 => M' (40 * i + k2)) := by
  intro i hi
  by_cases e : i = j
  · rw [e]
    exact Or.inr ⟨xa, ya, n, f', hs, List.mem_cons.mpr (Or.inl rfl), hT, hn, hZ, hA⟩
  · rcases hsh i hi with h | ⟨xi, yi, ni, fi, e1, e2, e3, e4, e5, e6⟩
    · exact Or.inl h
    · have hne : xi ≠ xa := fun z => e (hsd i j xa hi hj (by rw [e1, z]) hs)
      have hq : (xi, yi, T i, ni, fi) ∈ Q := by
        rcases List.mem_cons.mp (hp.mem_iff.mp e2) with z | z
        · exact absurd (congrArg Prod.fst z) hne
        · exact z
      refine Or.inr ⟨xi, yi, ni, fi, e1, List.mem_cons_of_mem _ hq, e3, e4, e5, fun k2 hk => ?_⟩
      show fi k2 = (M' (40 * i + k2)).toInt64
      rw [hB i k2 (by omega) e]
      exact e6 k2 hk
theorem sv_rep {P Q : List PE} {xa ya n : Nat} {so : Int32} {f f' : Nat → Int64} (hp : P.Perm ((xa, ya, so, n, f) :: Q)) {x : Option Nat} {W Wh Wm : Int32} (h : SvJ P x W Wh Wm) : SvJ ((xa, ya, so, n, f') :: Q) x W Wh Wm := by
  rcases h with h | ⟨xi, yi, ni, fi, e1, e2, e3, e4, e5⟩
  · exact Or.inl h
  · rcases List.mem_cons.mp (hp.mem_iff.mp e2) with z | z
    · cases z
      exact Or.inr ⟨_, _, _, f', e1, List.mem_cons.mpr (Or.inl rfl), e3, e4, e5⟩
    · exact Or.inr ⟨xi, yi, ni, fi, e1, List.mem_cons_of_mem _ z, e3, e4, e5⟩
theorem tk_N {S W Wh Wm sp : Nat → Int32} {N : Nat} {x y : Int32} (hG : Gd S N) (hs : ∀ j, j < 4 → sp j = ppS W Wh j) (hno : ∀ j, j < 4 → x = nI j → W j = 0 ∨ W j = 1) : R_takA S sp x y = R_taken S W Wh Wm x y := by
  unfold R_takA R_taken
  by_cases hg : tkG x y
  · rw [if_pos hg, if_pos hg]
    obtain ⟨j, hj, ej, ec⟩ := ix_le (n := 3) (by omega) hg.1
    rw [ec, hs j (by omega)]
    have hW := hno j (by omega) ej
    by_cases hO : 0 ≤ ppS W Wh j ∧ ppS W Wh j < S 0
    · have h1 : hoS S W Wh j = 1 := ho_pp.mpr hO
      have hW1 : W j = 1 := by
        rcases hW with h0 | h0
        · exfalso
          unfold ppS at hO
          rw [h0, if_neg (show ¬ (0 : Int32) = 1 by decide)] at hO
          exact absurd hO.1 (by decide)
        · exact h0
      have hp : ppS W Wh j = Wh j := by
        unfold ppS
        rw [if_pos hW1]
      rw [if_pos hO, h1, if_neg (show ¬ (1 : Int32) = 0 by decide), hp]
      by_cases hy : y < 10
      · rw [if_pos hy]
        by_cases hu : unS (sK S (Wh j).toNatClampNeg) y
        · rw [if_pos hu, if_pos (show (1 : Int32) = 1 ∧ unS (sK S (Wh j).toNatClampNeg) y from ⟨rfl, hu⟩)]
        · rw [if_neg hu, if_neg (show ¬ ((1 : Int32) = 1 ∧ unS (sK S (Wh j).toNatClampNeg) y) from fun z => hu z.2)]
      · have hu : ¬ unS (sK S (Wh j).toNatClampNeg) y := by
          rw [hp] at hO
          obtain ⟨d, hd, ed, ecd⟩ := ix_one hG hO
          obtain ⟨kd, hk5, hkd⟩ := (hG.one hd).1
          rw [ecd]
          intro z
          rcases z with z | z | z | z
          · exact hy (by rw [z]; decide)
          · exact hy (by rw [← z, hkd]; exact (nI_ltI (b := 10) (by omega) (by omega)).mpr (by omega))
          · exact hy (by rw [z.1]; decide)
          · exact hy (by rw [z.1]; decide)
        rw [if_neg hy, if_neg (show ¬ ((1 : Int32) = 2 ∧ Wh j = y - 10) from fun z => absurd z.1 (by decide)), if_neg hu]
    · have h0 : hoS S W Wh j = 0 := by
        unfold hoS
        rcases hW with h | h
        · rw [h, if_neg (show ¬ ((0 : Int32) = 1 ∧ ¬ (0 ≤ Wh j ∧ Wh j < S 0)) from fun z => absurd z.1 (by decide))]
        · rw [if_pos (show W j = 1 ∧ ¬ (0 ≤ Wh j ∧ Wh j < S 0) from ⟨h, fun z => hO (by unfold ppS; rw [if_pos h]; exact z)⟩)]
      rw [if_neg hO, h0, if_pos rfl]
  · rw [if_neg hg, if_neg hg]
theorem tk_S {S W Wh Wm : Nat → Int32} {n j : Nat} {x y : Int32} (hj : j < 4) (ex : x = nI j) (hW : W j = 2) (hm : Wm j = nI n) : R_takB (Wh j) n (nI j) y = R_taken S W Wh Wm x y := by
  subst ex
  have ec : (nI j).toNatClampNeg = j := nI_clamp (by omega)
  unfold R_takB R_taken
  by_cases hg : tkG (nI j) y
  · have h2 : hoS S W Wh j = 2 := by
      unfold hoS
      rw [hW, if_neg (show ¬ ((2 : Int32) = 1 ∧ ¬ (0 ≤ Wh j ∧ Wh j < S 0)) from fun z => absurd z.1 (by decide))]
    rw [if_pos hg, if_pos hg, ec, h2, if_neg (show ¬ (2 : Int32) = 0 by decide)]
    by_cases hy : y < 10
    · rw [if_pos hy, if_neg (show ¬ ((2 : Int32) = 1 ∧ unS (sK S (Wh j).toNatClampNeg) y) from fun z => absurd z.1 (by decide)), if_neg (show ¬ ((10 ≤ y ∧ y ≤ 13) ∧ Wh j = y - 10) from fun z => absurd hy (Int32.not_lt.mpr z.1.1))]
    · have h10 : 10 ≤ y ∧ y ≤ 13 := by
        rcases hg.2 with z | z
        · exact absurd (Int32.lt_of_le_of_lt z.2 (show (5 : Int32) < 10 by decide)) hy
        · exact z
      rw [if_neg hy]
      by_cases hw : Wh j = y - 10
      · rw [if_pos (show (10 ≤ y ∧ y ≤ 13) ∧ Wh j = y - 10 from ⟨h10, hw⟩), if_pos (show (2 : Int32) = 2 ∧ Wh j = y - 10 from ⟨rfl, hw⟩), hm]
      · rw [if_neg (show ¬ ((10 ≤ y ∧ y ≤ 13) ∧ Wh j = y - 10) from fun z => hw z.2), if_neg (show ¬ ((2 : Int32) = 2 ∧ Wh j = y - 10) from fun z => hw z.2)]
  · rw [if_neg hg, if_neg hg]
theorem shelf_sp {S T W Wh sp : Nat → Int32} {x y z : Int32} (h : ∀ j, j < 4 → sp j = ppS W Wh j) : ∀ j, j < 4 → P_shelf S sp x y z j = ppS (W_shelf S T W x y z) (H_shelf S T Wh x y z) j := by
  intro j hj
  unfold P_shelf W_shelf H_shelf
  by_cases hg : shG S x y z
  · rw [if_pos hg, if_pos hg, if_pos hg]
    by_cases e : j = x.toNatClampNeg
    · subst e
      unfold ppS
      rw [pk_us, pk_us, pk_us]
      by_cases hy : y = 0
      · rw [if_pos hy, if_pos hy, if_pos hy, if_pos rfl]
      · rw [if_neg hy, if_neg hy, if_neg hy]
        by_cases h1 : y = 1 ∧ 0 ≤ T z.toNatClampNeg
        · rw [if_pos h1, if_neg (show ¬ (2 : Int32) = 1 by decide)]
        · rw [if_neg h1, if_neg (show ¬ (0 : Int32) = 1 by decide)]
    · rw [pk_un e, h j hj]
      unfold ppS
      rw [pk_un e, pk_un e]
  · rw [if_neg hg, if_neg hg, if_neg hg]
    exact h j hj
theorem shelf_sv {P : List PE} {S T Z W Wh Wm : Nat → Int32} {sr : Nat → Option Nat} {val : Option Nat} {x y z : Int32} (h : ∀ j, j < 4 → SvJ P (sr j) (W j) (Wh j) (Wm j)) (hv : shG S x y z → SvJ P val (if y = 0 then 1 else if y = 1 ∧ 0 ≤ T z.toNatClampNeg then 2 else 0) (if y = 0 then z else if y = 1 ∧ 0 ≤ T z.toNatClampNeg then T z.toNatClampNeg else 0) (if y = 1 ∧ 0 ≤ T z.toNatClampNeg then Z z.toNatClampNeg else 0)) : ∀ j, j < 4 → SvJ P (Q_shelf S sr val x y z j) (W_shelf S T W x y z j) (H_shelf S T Wh x y z j) (M_shelf S T Z Wm x y z j) := by
  intro j hj
  unfold Q_shelf W_shelf H_shelf M_shelf
  by_cases hg : shG S x y z
  · rw [if_pos hg, if_pos hg, if_pos hg, if_pos hg]
    by_cases e : j = x.toNatClampNeg
    · subst e
      rw [va_up_self, pk_us, pk_us, pk_us]
      exact hv hg
    · rw [va_up_ne _ _ e, pk_un e, pk_un e, pk_un e]
      exact h j hj
  · rw [if_neg hg, if_neg hg, if_neg hg, if_neg hg]
    exact h j hj
theorem shv_N {P : List PE} {T Z : Nat → Int32} {y z : Int32} (ht : y = 1 → T z.toNatClampNeg = -1) : SvJ P none (if y = 0 then 1 else if y = 1 ∧ 0 ≤ T z.toNatClampNeg then 2 else 0) (if y = 0 then z else if y = 1 ∧ 0 ≤ T z.toNatClampNeg then T z.toNatClampNeg else 0) (if y = 1 ∧ 0 ≤ T z.toNatClampNeg then Z z.toNatClampNeg else 0) := by
  refine Or.inl ⟨rfl, ?_⟩
  by_cases hy : y = 0
  · exact Or.inr (if_pos hy)
  · have h1 : ¬ (y = 1 ∧ 0 ≤ T z.toNatClampNeg) := fun z2 => by
      have h2 := z2.2
      rw [ht z2.1] at h2
      exact absurd h2 (by decide)
    exact Or.inl ((if_neg hy).trans (if_neg h1))
theorem shv_S {P : List PE} {T Z : Nat → Int32} {y z : Int32} {i xa ya n : Nat} {f : Nat → Int64} (hy : y = 1) (hi : i < 4) (ez : z = nI i) (hT : 0 ≤ T i) (hm : (xa, ya, T i, n, f) ∈ P) (hn : n ≤ 40) (hZ : Z i = nI n) : SvJ P (some xa) (if y = 0 then 1 else if y = 1 ∧ 0 ≤ T z.toNatClampNeg then 2 else 0) (if y = 0 then z else if y = 1 ∧ 0 ≤ T z.toNatClampNeg then T z.toNatClampNeg else 0) (if y = 1 ∧ 0 ≤ T z.toNatClampNeg then Z z.toNatClampNeg else 0) := by
  have ec : z.toNatClampNeg = i := (jx_in hi ez).2
  have h0 : ¬ y = 0 := by rw [hy]; decide
  have h1 : y = 1 ∧ 0 ≤ T z.toNatClampNeg := ⟨hy, by rw [ec]; exact hT⟩
  rw [if_neg h0, if_neg h0, if_pos h1, if_pos h1, if_pos h1, ec]
  exact Or.inr ⟨xa, ya, n, f, rfl, hm, rfl, hn, hZ⟩
theorem clM_in {M : Nat → Int32} {j : Nat} : ∀ m k2, k2 < m → clM M j m (40 * j + k2) = 0
  | 0, k2, h => by omega
  | m + 1, k2, h => by
    rw [clM]
    by_cases e : k2 = m
    · rw [e, pk_us]
    · rw [pk_un (by omega)]
      exact clM_in m k2 (by omega)
theorem clM_ne {M : Nat → Int32} {i j : Nat} (hij : i ≠ j) : ∀ m, m ≤ 40 → ∀ k2, k2 < 40 → clM M j m (40 * i + k2) = M (40 * i + k2)
  | 0, _, _, _ => rfl
  | m + 1, h, k2, hk => by
    rw [clM, pk_un (by omega)]
    exact clM_ne hij m (by omega) k2 hk
theorem se_rg {x y z : Int32} (hg : seH x y z) : (y = -1 ∧ ¬ 0 ≤ y) ∨ ((0 ≤ y ∧ y ≤ 3) ∧ ∃ n, n ≤ 40 ∧ z = nI n) := by
  by_cases h : y = -1
  · exact Or.inl ⟨h, by rw [h]; decide⟩
  · have hy := se_y hg.1.2.1.1 h
    have hz : 0 ≤ z := Int32.not_lt.mp (fun z2 => hg.2 ⟨hy, z2⟩)
    obtain ⟨n, hn, en, _⟩ := ix_le (n := 40) (by omega) ⟨hz, hg.1.2.2 hy⟩
    exact Or.inr ⟨⟨hy, hg.1.2.1.2⟩, n, hn, en⟩
theorem sheet_sg {T Z : Nat → Int32} {x y z : Int32} (hT : ShG T Z) : ShG (T_sheet T x y z) (Z_sheet Z x y z) := by
  intro j hj
  unfold T_sheet Z_sheet
  by_cases hg : seH x y z
  · rw [if_pos hg, if_pos hg]
    by_cases e : j = x.toNatClampNeg
    · subst e
      rw [pk_us, pk_us]
      rcases se_rg hg with ⟨h1, h2⟩ | ⟨h1, n, hn, en⟩
      · exact ⟨Or.inl h1, 0, by omega, by rw [if_pos (Int32.not_le.mp h2)]; rfl⟩
      · obtain ⟨k, hk, ek, _⟩ := ix_le (n := 3) (by omega) h1
        exact ⟨Or.inr ⟨k, hk, ek⟩, n, hn, by rw [if_neg (Int32.not_lt.mpr h1.1)]; exact en⟩
    · rw [pk_un e, pk_un e]
      exact hT j hj
  · rw [if_neg hg, if_neg hg]
    exact hT j hj
/-- what the class does to its four sheets -/
def SheO (sh sh' : Nat → Option Nat) (Q : List PE) (x y z : Int32) : Prop := (Q = [] ∧ ¬ (seH x y z ∧ 0 ≤ y) ∧ sh' = (if seH x y z then va_up sh x.toNatClampNeg none else sh)) ∨ ((seH x y z ∧ 0 ≤ y) ∧ ∃ z1 z2 n, n ≤ 40 ∧ z = nI n ∧ Q = [(z1, z2, y, n, fun _ => 0)] ∧ sh' = va_up sh x.toNatClampNeg (some z1))
theorem sheet_sh {P Q : List PE} {sh sh' : Nat → Option Nat} {T Z M : Nat → Int32} {x y z : Int32} (hsh : ∀ i, i < 4 → ShJ P (sh i) (T i) (Z i) (fun k2 => M (40 * i + k2))) (ho : SheO sh sh' Q x y z) : ∀ i, i < 4 → ShJ (Q ++ P) (sh' i) (T_sheet T x y z i) (Z_sheet Z x y z i) (fun k2 => M_sheet M x y z (40 * i + k2)) := by
  intro i hi
  have old : ∀ (a b : Int32) (M' : Nat → Int32), a = T i → b = Z i → (∀ k2, k2 < 40 → M' (40 * i + k2) = M (40 * i + k2)) → ShJ (Q ++ P) (sh i) a b (fun k2 => M' (40 * i + k2)) := by
    intro a b M' ha hb hM
    subst ha
    subst hb
    rcases hsh i hi with h | ⟨xi, yi, ni, fi, e1, e2, e3, e4, e5, e6⟩
    · exact Or.inl h
    · refine Or.inr ⟨xi, yi, ni, fi, e1, List.mem_append_right _ e2, e3, e4, e5, fun k2 hk => ?_⟩
      show fi k2 = (M' (40 * i + k2)).toInt64
      rw [hM k2 (by omega)]
      exact e6 k2 hk
  unfold T_sheet Z_sheet M_sheet
  by_cases hg : seH x y z
  · rw [if_pos hg, if_pos hg, if_pos hg]
    obtain ⟨j, hj, ej, ec⟩ := ix_le (n := 3) (by omega) hg.1.1
    rw [ec]
    by_cases e : i = j
    · subst e
      rw [pk_us, pk_us]
      rcases ho with ⟨hQ, hn, es⟩ | ⟨hy, z1, z2, n, hn, en, hQ, es⟩
      · rcases se_rg hg with ⟨h1, _⟩ | ⟨h1, _⟩
        · refine Or.inl ⟨?_, h1⟩
          rw [es, if_pos hg, ec, va_up_self]
        · exact (hn ⟨hg, h1.1⟩).elim
      · refine Or.inr ⟨z1, z2, n, fun _ => 0, by rw [es, ec, va_up_self], by rw [hQ]; exact List.mem_append_left _ (List.mem_cons.mpr (Or.inl rfl)), ⟨hy.2, hg.1.2.1.2⟩, hn, by rw [if_neg (Int32.not_lt.mpr hy.2)]; exact en, fun k2 hk => ?_⟩
        show (0 : Int64) = (clM M i 40 (40 * i + k2)).toInt64
        rw [clM_in 40 k2 (by omega)]
        decide
    · have es : sh' i = sh i := by
        rcases ho with ⟨_, _, es⟩ | ⟨_, z1, z2, n, _, _, _, es⟩
        · rw [es, if_pos hg, ec, va_up_ne _ _ e]
        · rw [es, ec, va_up_ne _ _ e]
      rw [es]
      exact old _ _ _ (pk_un e) (pk_un e) (fun k2 hk => clM_ne e 40 (by omega) k2 hk)
  · rw [if_neg hg, if_neg hg, if_neg hg]
    have es : sh' i = sh i := by
      rcases ho with ⟨_, _, es⟩ | ⟨hy, _⟩
      · rw [es, if_neg hg]
      · exact absurd hy.1 hg
    rw [es]
    exact old _ _ _ rfl rfl (fun _ _ => rfl)
theorem sheet_sd {P Q : List PE} {sh sh' : Nat → Option Nat} {T Z : Nat → Int32} {MM : Nat → Nat → Int32} {x y z : Int32} (hsh : ∀ i, i < 4 → ShJ P (sh i) (T i) (Z i) (MM i)) (hsd : ∀ i j x, i < 4 → j < 4 → sh i = some x → sh j = some x → i = j) (ho : SheO sh sh' Q x y z) (hf : ∀ a, a ∈ Q → ∀ b, b ∈ P → a.1 ≠ b.1) : ∀ i j x2, i < 4 → j < 4 → sh' i = some x2 → sh' j = some x2 → i = j := by
  have isin : ∀ i x2, i < 4 → sh i = some x2 → ∃ b, b ∈ P ∧ b.1 = x2 := by
    intro i x2 hi h
    rcases hsh i hi with ⟨h2, _⟩ | ⟨xi, yi, ni, fi, e1, e2, _⟩
    · rw [h2] at h
      cases h
    · rw [e1] at h
      cases h
      exact ⟨_, e2, rfl⟩
  rcases ho with ⟨hQ, hn, es⟩ | ⟨hy, z1, z2, n, hn, en, hQ, es⟩
  · intro i j x2 hi hj h1 h2
    by_cases hg : seH x y z
    · rw [if_pos hg] at es
      rw [es] at h1 h2
      by_cases e1 : i = x.toNatClampNeg
      · rw [e1, va_up_self] at h1
        cases h1
      · by_cases e2 : j = x.toNatClampNeg
        · rw [e2, va_up_self] at h2
          cases h2
        · rw [va_up_ne _ _ e1] at h1
          rw [va_up_ne _ _ e2] at h2
          exact hsd i j x2 hi hj h1 h2
    · rw [if_neg hg] at es
      rw [es] at h1 h2
      exact hsd i j x2 hi hj h1 h2
  · have new : ∀ i, i < 4 → sh i = some z1 → False := by
      intro i hi h
      obtain ⟨b, hb, eb⟩ := isin i z1 hi h
      exact hf (z1, z2, y, n, fun _ => 0) (by rw [hQ]; exact List.mem_cons.mpr (Or.inl rfl)) b hb eb.symm
    intro i j x2 hi hj h1 h2
    rw [es] at h1 h2
    by_cases e1 : i = x.toNatClampNeg
    · by_cases e2 : j = x.toNatClampNeg
      · rw [e1, e2]
      · rw [e1, va_up_self] at h1
        rw [va_up_ne _ _ e2, ← h1] at h2
        exact (new j hj h2).elim
    · by_cases e2 : j = x.toNatClampNeg
      · rw [e2, va_up_self] at h2
        rw [va_up_ne _ _ e1, ← h2] at h1
        exact (new i hi h1).elim
      · rw [va_up_ne _ _ e1] at h1
        rw [va_up_ne _ _ e2] at h2
        exact hsd i j x2 hi hj h1 h2
