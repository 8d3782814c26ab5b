/-! SHEETS AND SHELVES, in the reference's rows: T sorts, Z sizes, M numbers; W what is held, Wh which, Wm how many -/
def ppS (W Wh : Nat → Int32) (j : Nat) : Int32 := if W j = 1 then Wh j else -1
def hoS (S W Wh : Nat → Int32) (j : Nat) : Int32 := if W j = 1 ∧ ¬ (0 ≤ Wh j ∧ Wh j < S 0) then 0 else W j
def ShG (T Z : Nat → Int32) : Prop := ∀ j, j < 4 → (T j = -1 ∨ ∃ k, k ≤ 3 ∧ T j = nI k) ∧ ∃ n, n ≤ 40 ∧ Z j = nI n
theorem ho_pp {S W Wh : Nat → Int32} {j : Nat} : hoS S W Wh j = 1 ↔ (0 ≤ ppS W Wh j ∧ ppS W Wh j < S 0) := by
  unfold hoS ppS
  by_cases h : W j = 1
  · rw [if_pos h]
    by_cases h2 : 0 ≤ Wh j ∧ Wh j < S 0
    · rw [if_neg (fun z => z.2 h2)]
      exact ⟨fun _ => h2, fun _ => h⟩
    · rw [if_pos ⟨h, h2⟩]
      exact ⟨fun z => absurd z (by decide), fun z => absurd z h2⟩
  · rw [if_neg (fun z => h z.1), if_neg h]
    exact ⟨fun z => absurd z h, fun z => absurd z.1 (by decide)⟩
theorem a50_le {n a x : Int32} {z : (Nat → Int32) × Nat} (h : z.2 ≤ 30) : (a50 n a x z).2.1.2 ≤ 30 := a12_le (n := n) (a := a) (x := x + a) (z := noS z 50) (noC_le h)
theorem a61_le {n a x : Int32} {kd : Nat} {z : (Nat → Int32) × Nat} (h : z.2 ≤ 30) : (a61 n a kd x z).2.1.2 ≤ 30 := by
  have h1 : (a12 n a x (noS z 61)).2.1.2 ≤ 30 := a12_le (z := noS z 61) (noC_le h)
  unfold a61
  by_cases e : n = a
  · rw [if_pos e]; exact h1
  · rw [if_neg e]; exact aCo_le (n := n) (x := n) (kd := kd) (z := (a12 n a x (noS z 61)).2.1) h1
theorem aPa_le {n a x : Int32} {kd : Nat} {z : (Nat → Int32) × Nat} (h : z.2 ≤ 30) : (aPa n a kd x z).2.1.2 ≤ 30 := by
  unfold aPa
  split
  · exact a50_le h
  · split
    · exact a61_le h
    · exact a12_le h
theorem aRi_le {n a x : Int32} {kd : Nat} {z : (Nat → Int32) × Nat} (h : z.2 ≤ 30) : (aRi n a kd x z).2.1.2 ≤ 30 := by
  unfold aRi
  split
  · exact aPa_le (n := n) (a := a) (x := n) (kd := kd) (z := (a13 n a kd x (noS z 31)).2) (a13_le (n := n) (a := a) (x := x) (kd := kd) (z := noS z 31) (noC_le h))
  · split
    · exact a13_le (n := n) (a := a) (x := x) (kd := kd) (z := noS z 60) (noC_le h)
    · exact a13_le h
/-- the act of a thing by its number, with a third: 1 if it was parted by 0 -/
def acS (n a : Int32) (kd : Nat) (y x : Int32) (z : (Nat → Int32) × Nat) : Int32 × ((Nat → Int32) × Nat) × Int32 := if y = 0 then ((aCo n kd x z).1, (aCo n kd x z).2, 0) else if y = 1 then ((aLa n a kd x z).1, (aLa n a kd x z).2, 0) else if y = 2 then aPa n a kd x z else aRi n a kd x z
theorem acS_le {n a y x : Int32} {kd : Nat} {z : (Nat → Int32) × Nat} (h : z.2 ≤ 30) : (acS n a kd y x z).2.1.2 ≤ 30 := by
  unfold acS
  split
  · exact aCo_le h
  · split
    · exact aLa_le h
    · split
      · exact aPa_le h
      · exact aRi_le h
abbrev acG (S pp : Nat → Int32) (x y : Int32) : Prop := ((0 ≤ x ∧ x ≤ 3) ∧ (0 ≤ y ∧ y ≤ 3)) ∧ (0 ≤ pp x.toNatClampNeg ∧ pp x.toNatClampNeg < S 0)
def acV (S pp B : Nat → Int32) (x y t : Int32) : Int32 × ((Nat → Int32) × Nat) × Int32 := acS (pp x.toNatClampNeg) (sE S (pp x.toNatClampNeg).toNatClampNeg) (sK S (pp x.toNatClampNeg).toNatClampNeg).toNatClampNeg y t (B, 0)
def R_act (S pp B : Nat → Int32) (x y t : Int32) : Int32 := if acG S pp x y then (if (acV S pp B x y t).2.2 = 0 then (acV S pp B x y t).1 else -15) else 0
def B_act (S pp B : Nat → Int32) (x y t : Int32) : Nat → Int32 := if acG S pp x y then (acV S pp B x y t).2.1.1 else B
def C_act (S pp B : Nat → Int32) (x y t : Int32) : Nat := if acG S pp x y then (acV S pp B x y t).2.1.2 else 0
theorem act_le {S pp B : Nat → Int32} {x y t : Int32} : C_act S pp B x y t ≤ 30 := by
  unfold C_act
  split
  · exact acS_le (z := (B, 0)) (Nat.zero_le 30)
  · exact Nat.zero_le 30
theorem act_R {S pp B : Nat → Int32} {x y t : Int32} {d kd : Nat} (hA : acG S pp x y) (hpp : pp x.toNatClampNeg = nI d) (hd : d < 8) (hk : kd ≤ 5) (hkd : sK S d = nI kd) : R_act S pp B x y t = (if (acS (nI d) (sE S d) kd y t (B, 0)).2.2 = 0 then (acS (nI d) (sE S d) kd y t (B, 0)).1 else -15) ∧ B_act S pp B x y t = (acS (nI d) (sE S d) kd y t (B, 0)).2.1.1 ∧ C_act S pp B x y t = (acS (nI d) (sE S d) kd y t (B, 0)).2.1.2 := by
  have e1 : acV S pp B x y t = acS (nI d) (sE S d) kd y t (B, 0) := by
    unfold acV
    rw [hpp, nI_clamp (by omega), hkd, nI_clamp (by omega)]
  unfold R_act B_act C_act
  rw [if_pos hA, if_pos hA, if_pos hA, e1]
  exact ⟨rfl, rfl, rfl⟩
theorem act_N {S pp B : Nat → Int32} {x y t : Int32} (hA : ¬ acG S pp x y) : R_act S pp B x y t = 0 ∧ B_act S pp B x y t = B ∧ C_act S pp B x y t = 0 := by
  unfold R_act B_act C_act
  rw [if_neg hA, if_neg hA, if_neg hA]
  exact ⟨rfl, rfl, rfl⟩
theorem acG_congr {S pp pq : Nat → Int32} {x y : Int32} (h : ∀ j, j < 4 → pp j = pq j) : acG S pp x y → acG S pq x y := by
  intro hA
  obtain ⟨j, hj, ej, ec⟩ := ix_le (n := 3) (by omega) hA.1.1
  have e1 : pp x.toNatClampNeg = pq x.toNatClampNeg := by rw [ec]; exact h j (by omega)
  exact ⟨hA.1, by rw [← e1]; exact hA.2⟩
theorem act_congr {S pp pq B : Nat → Int32} {x y t : Int32} (h : ∀ j, j < 4 → pp j = pq j) : R_act S pp B x y t = R_act S pq B x y t ∧ B_act S pp B x y t = B_act S pq B x y t ∧ C_act S pp B x y t = C_act S pq B x y t := by
  by_cases hA : acG S pp x y
  · have hB := acG_congr h hA
    obtain ⟨j, hj, ej, ec⟩ := ix_le (n := 3) (by omega) hA.1.1
    have e1 : pp x.toNatClampNeg = pq x.toNatClampNeg := by rw [ec]; exact h j (by omega)
    unfold R_act B_act C_act acV
    rw [if_pos hA, if_pos hA, if_pos hA, if_pos hB, if_pos hB, if_pos hB, e1]
    exact ⟨rfl, rfl, rfl⟩
  · have hB : ¬ acG S pq x y := fun z => hA (acG_congr (fun j hj => (h j hj).symm) z)
    obtain ⟨a1, a2, a3⟩ := act_N (B := B) (t := t) hA
    obtain ⟨b1, b2, b3⟩ := act_N (B := B) (t := t) hB
    exact ⟨a1.trans b1.symm, a2.trans b2.symm, a3.trans b3.symm⟩
/-! what a kind is under -/
abbrev unS (own kind : Int32) : Prop := kind = 0 ∨ own = kind ∨ (kind = 1 ∧ own = 3) ∨ (kind = 2 ∧ own = 4)
def unD (k : Nat) (y : Int32) : Prop := match k with
  | 0 => y = 0
  | 1 => y = 1 ∨ y = 0
  | 2 => y = 2 ∨ y = 0
  | 3 => y = 3 ∨ y = 1 ∨ y = 0
  | 4 => y = 4 ∨ y = 2 ∨ y = 0
  | 5 => y = 5 ∨ y = 0
  | _ => False
def unU (k : Nat) : Nat := match k with
  | 0 => 6
  | 1 => 0
  | 2 => 0
  | 3 => 1
  | 4 => 2
  | 5 => 0
  | _ => 6
def unL (k : Nat) : Nat := match k with
  | 0 => 1
  | 1 => 2
  | 2 => 2
  | 3 => 3
  | 4 => 3
  | 5 => 2
  | _ => 0
def unK (k : Nat) : Int32 := if k = 6 then -1 else nI k
theorem un_st : ∀ k, k < 6 → unU k ≤ 6 ∧ unL (unU k) + 1 = unL k ∧ tKA.getD k 0 = unK (unU k) ∧ unK k = nI k := by decide +kernel
theorem un_kd : ∀ k, k < 7 → ((0 ≤ unK k ∧ unK k ≤ 5) ↔ k < 6) := by decide +kernel
theorem un_le : ∀ k, k < 7 → unL k ≤ 3 := by decide +kernel
theorem un_D {k : Nat} {y : Int32} (hk : k < 6) : unD k y ↔ (y = nI k ∨ unD (unU k) y) := by
  have h6 : k = 0 ∨ k = 1 ∨ k = 2 ∨ k = 3 ∨ k = 4 ∨ k = 5 := by omega
  rcases h6 with rfl | rfl | rfl | rfl | rfl | rfl
  · exact ⟨fun h => Or.inl h, fun h => h.resolve_right (fun z => z)⟩
  · exact Iff.rfl
  · exact Iff.rfl
  · exact Iff.rfl
  · exact Iff.rfl
  · exact Iff.rfl
theorem un_S {k : Nat} {y : Int32} (hk : k < 6) : unS (nI k) y ↔ unD k y := by
  have h6 : k = 0 ∨ k = 1 ∨ k = 2 ∨ k = 3 ∨ k = 4 ∨ k = 5 := by omega
  have a : ∀ a b : Int32, (a = b) ↔ (b = a) := fun a b => ⟨fun h => h.symm, fun h => h.symm⟩
  rcases h6 with rfl | rfl | rfl | rfl | rfl | rfl
  · show (y = 0 ∨ (0 : Int32) = y ∨ (y = 1 ∧ (0 : Int32) = 3) ∨ (y = 2 ∧ (0 : Int32) = 4)) ↔ y = 0
    rw [a 0 y]; simp
  · show (y = 0 ∨ (1 : Int32) = y ∨ (y = 1 ∧ (1 : Int32) = 3) ∨ (y = 2 ∧ (1 : Int32) = 4)) ↔ (y = 1 ∨ y = 0)
    rw [a 1 y]; simp [or_comm]
  · show (y = 0 ∨ (2 : Int32) = y ∨ (y = 1 ∧ (2 : Int32) = 3) ∨ (y = 2 ∧ (2 : Int32) = 4)) ↔ (y = 2 ∨ y = 0)
    rw [a 2 y]; simp [or_comm]
  · show (y = 0 ∨ (3 : Int32) = y ∨ (y = 1 ∧ (3 : Int32) = 3) ∨ (y = 2 ∧ (3 : Int32) = 4)) ↔ (y = 3 ∨ y = 1 ∨ y = 0)
    rw [a 3 y]; simp
    constructor
    · intro h; rcases h with h | h | h <;> simp [h]
    · intro h; rcases h with h | h | h <;> simp [h]
  · show (y = 0 ∨ (4 : Int32) = y ∨ (y = 1 ∧ (4 : Int32) = 3) ∨ (y = 2 ∧ (4 : Int32) = 4)) ↔ (y = 4 ∨ y = 2 ∨ y = 0)
    rw [a 4 y]; simp
    constructor
    · intro h; rcases h with h | h | h <;> simp [h]
    · intro h; rcases h with h | h | h <;> simp [h]
  · show (y = 0 ∨ (5 : Int32) = y ∨ (y = 1 ∧ (5 : Int32) = 3) ∨ (y = 2 ∧ (5 : Int32) = 4)) ↔ (y = 5 ∨ y = 0)
    rw [a 5 y]; simp [or_comm]
/-! the answers -/
abbrev shG (S : Nat → Int32) (x y z : Int32) : Prop := (0 ≤ x ∧ x ≤ 3) ∧ (0 ≤ y ∧ y ≤ 2) ∧ (y = 0 → (0 ≤ z ∧ z < S 0)) ∧ (y = 1 → (0 ≤ z ∧ z ≤ 3))
def R_shelf (S : Nat → Int32) (x y z : Int32) : Int32 := if shG S x y z then 1 else -1
def W_shelf (S T W : Nat → Int32) (x y z : Int32) : Nat → Int32 := if shG S x y z then upd W x.toNatClampNeg (if y = 0 then 1 else if y = 1 ∧ 0 ≤ T z.toNatClampNeg then 2 else 0) else W
def H_shelf (S T Wh : Nat → Int32) (x y z : Int32) : Nat → Int32 := if shG S x y z then upd Wh x.toNatClampNeg (if y = 0 then z else if y = 1 ∧ 0 ≤ T z.toNatClampNeg then T z.toNatClampNeg else 0) else Wh
def M_shelf (S T Z Wm : Nat → Int32) (x y z : Int32) : Nat → Int32 := if shG S x y z then upd Wm x.toNatClampNeg (if y = 1 ∧ 0 ≤ T z.toNatClampNeg then Z z.toNatClampNeg else 0) else Wm
def P_shelf (S sp : Nat → Int32) (x y z : Int32) : Nat → Int32 := if shG S x y z then upd sp x.toNatClampNeg (if y = 0 then z else -1) else sp
def Q_shelf (S : Nat → Int32) (sr : Nat → Option Nat) (v : Option Nat) (x y z : Int32) : Nat → Option Nat := if shG S x y z then va_up sr x.toNatClampNeg v else sr
abbrev tkG (x y : Int32) : Prop := (0 ≤ x ∧ x ≤ 3) ∧ ((0 ≤ y ∧ y ≤ 5) ∨ (10 ≤ y ∧ y ≤ 13))
def R_taken (S W Wh Wm : Nat → Int32) (x y : Int32) : Int32 := if tkG x y then (if hoS S W Wh x.toNatClampNeg = 0 then -11 else if y < 10 then (if hoS S W Wh x.toNatClampNeg = 1 ∧ unS (sK S (Wh x.toNatClampNeg).toNatClampNeg) y then Wh x.toNatClampNeg else -13) else (if hoS S W Wh x.toNatClampNeg = 2 ∧ Wh x.toNatClampNeg = y - 10 then Wm x.toNatClampNeg else -13)) else -1
def R_takA (S sp : Nat → Int32) (x y : Int32) : Int32 := if tkG x y then (if 0 ≤ sp x.toNatClampNeg ∧ sp x.toNatClampNeg < S 0 then (if unS (sK S (sp x.toNatClampNeg).toNatClampNeg) y then sp x.toNatClampNeg else -13) else -11) else -1
def R_takB (so : Int32) (n : Nat) (x y : Int32) : Int32 := if tkG x y then (if (10 ≤ y ∧ y ≤ 13) ∧ so = y - 10 then nI n else -13) else -1
def nwS (s z : Int32) : Int32 := if s = 0 then z.toInt8.toInt32 else if s = 1 then z.toInt16.toInt32 else z
def R_put (T Z : Nat → Int32) (x y : Int32) : Int32 := if 0 ≤ x ∧ x ≤ 3 then (if T x.toNatClampNeg < 0 then -11 else if 0 ≤ y ∧ y ≤ Z x.toNatClampNeg - 1 then 1 else -12) else -1
abbrev puG (T Z : Nat → Int32) (x y : Int32) : Prop := (0 ≤ x ∧ x ≤ 3) ∧ ¬ T x.toNatClampNeg < 0 ∧ (0 ≤ y ∧ y ≤ Z x.toNatClampNeg - 1)
def M_put (T Z M : Nat → Int32) (x y z : Int32) : Nat → Int32 := if puG T Z x y then upd M (40 * x.toNatClampNeg + y.toNatClampNeg) (nwS (T x.toNatClampNeg) z) else M
def laS (T : Nat → Int32) (j : Nat) (so : Int32) : Int32 := if T j < 0 then -11 else if ¬ T j = so then -13 else 0
def R_item (T Z M : Nat → Int32) (x y z : Int32) : Int32 := if (0 ≤ x ∧ x ≤ 3) ∧ (0 ≤ y ∧ y ≤ 3) then (if ¬ laS T x.toNatClampNeg y = 0 then laS T x.toNatClampNeg y else if 0 ≤ z ∧ z ≤ Z x.toNatClampNeg - 1 then M (40 * x.toNatClampNeg + z.toNatClampNeg) else -12) else -1
abbrev seG (x y z : Int32) : Prop := (0 ≤ x ∧ x ≤ 3) ∧ (-1 ≤ y ∧ y ≤ 3) ∧ (0 ≤ y → z ≤ 40)
def R_sheet (x y z : Int32) : Int32 := if seG x y z then (if 0 ≤ y ∧ z < 0 then -14 else 1) else -1
abbrev seH (x y z : Int32) : Prop := seG x y z ∧ ¬ (0 ≤ y ∧ z < 0)
def T_sheet (T : Nat → Int32) (x y z : Int32) : Nat → Int32 := if seH x y z then upd T x.toNatClampNeg y else T
def Z_sheet (Z : Nat → Int32) (x y z : Int32) : Nat → Int32 := if seH x y z then upd Z x.toNatClampNeg (if y < 0 then 0 else z) else Z
def clM (M : Nat → Int32) (j : Nat) : Nat → Nat → Int32
  | 0 => M
  | k + 1 => upd (clM M j k) (40 * j + k) 0
def M_sheet (M : Nat → Int32) (x y z : Int32) : Nat → Int32 := if seH x y z then clM M x.toNatClampNeg 40 else M
abbrev miG (S : Nat → Int32) (x y z w : Int32) : Prop := (0 ≤ x ∧ x ≤ 3) ∧ (0 ≤ z ∧ z < S 0) ∧ (0 ≤ w ∧ w ≤ 8) ∧ z + w ≤ S 0
/-- the PRIDE of d, d + 1 .. becomes what stands in g from i on -/
def miL (S g : Nat → Int32) (d i : Nat) : Nat → Nat → Int32
  | 0 => S
  | k + 1 => upd (miL S g d i k) (7 + 5 * (d + k) + 1) (wiS (g (i + k)))
def R_minds (S T Z : Nat → Int32) (x y z w : Int32) : Int32 := if miG S x y z w then (if ¬ laS T x.toNatClampNeg 0 = 0 then laS T x.toNatClampNeg 0 else if (0 ≤ y ∧ y ≤ Z x.toNatClampNeg) ∧ y.toNatClampNeg + w.toNatClampNeg ≤ (Z x.toNatClampNeg).toNatClampNeg then w else -12) else -1
abbrev miH (S T Z : Nat → Int32) (x y z w : Int32) : Prop := miG S x y z w ∧ laS T x.toNatClampNeg 0 = 0 ∧ (0 ≤ y ∧ y ≤ Z x.toNatClampNeg) ∧ y.toNatClampNeg + w.toNatClampNeg ≤ (Z x.toNatClampNeg).toNatClampNeg
def S_minds (S T Z M : Nat → Int32) (x y z w : Int32) : Nat → Int32 := if miH S T Z x y z w then miL S (fun k => M (40 * x.toNatClampNeg + k)) z.toNatClampNeg y.toNatClampNeg w.toNatClampNeg else S
theorem mi_cmp {a b n : Nat} (ha : a < 2 ^ 30) (hb : b < 2 ^ 30) (hn : n < 2 ^ 31) : (nI a).toInt64 + (nI b).toInt64 ≤ (nI n).toInt64 ↔ a + b ≤ n := by
  have e1 := nI_toInt (n := a) (by omega)
  have e2 := nI_toInt (n := b) (by omega)
  have e3 := nI_toInt (n := n) (by omega)
  rw [Int64.le_iff_toInt_le, Int64.toInt_add, Int32.toInt_toInt64, Int32.toInt_toInt64, Int32.toInt_toInt64, e1, e2, e3, Int.bmod_eq_of_le (by omega) (by omega)]
  omega
theorem mi_cm {i b n : Nat} (h : i + b ≤ n) (hi : i ≤ n) (hn : n ≤ 40) (hb : b ≤ 8) : lg_cmp ((nI i).toInt64 + (nI b).toInt64) (nI n).toInt64 ≤ 0 := by
  have h1 := (mi_cmp (a := i) (b := b) (n := n) (by omega) (by omega) (by omega)).mpr h
  exact Int32.not_lt.mp (fun z => by rw [lg_gt0] at z; exact absurd z (Int64.not_lt.mpr h1))
theorem mi_cm2 {i b n : Nat} (h : lg_cmp ((nI i).toInt64 + (nI b).toInt64) (nI n).toInt64 ≤ 0) (hi : i ≤ n) (hn : n ≤ 40) (hb : b ≤ 8) : i + b ≤ n := by
  refine (mi_cmp (a := i) (b := b) (n := n) (by omega) (by omega) (by omega)).mp (Int64.not_lt.mp (fun z => ?_))
  have h2 : (0 : Int32) < lg_cmp ((nI i).toInt64 + (nI b).toInt64) (nI n).toInt64 := by rw [lg_gt0]; exact z
  exact absurd h2 (Int32.not_lt.mpr h)
theorem tk_rng {y : Int32} (h : 0 ≤ y ∧ y ≤ 13) (h2 : ¬ (6 ≤ y ∧ y ≤ 9)) : (0 ≤ y ∧ y ≤ 5) ∨ (10 ≤ y ∧ y ≤ 13) := by
  obtain ⟨j, hj, rfl, -⟩ := ix_le (n := 13) (by omega) h
  have h3 : ∀ j, j < 14 → ¬ (6 ≤ nI j ∧ nI j ≤ 9) → (0 ≤ nI j ∧ nI j ≤ 5) ∨ (10 ≤ nI j ∧ nI j ≤ 13) := by decide +kernel
  exact h3 j (by omega) h2
/-! FITS: as many clap, behind 1, 2 .. MINUTES, as numbers tell -/
abbrev tdM (S g : Nat → Int32) (N k : Nat) : Prop := g k = -1 ∨ g k = nI (pop (clN (gosS S N (k + 1)) N))
abbrev tdS (S g : Nat → Int32) (N n : Nat) : Prop := ∀ k, k < n → tdM S g N k
theorem td_next {S g : Nat → Int32} {N k : Nat} (h : tdS S g N k) (hm : tdM S g N k) : tdS S g N (k + 1) := by
  intro i hi
  by_cases e : i = k
  · subst e; exact hm
  · exact h i (by omega)
def eaK (j : Nat) : Int32 := if j = 10 then -1 else nI (9 - j)
theorem ea_st : ∀ j, j < 10 → eaK j + (-1) = eaK (j + 1) ∧ eaK j = nI (9 - j) ∧ ¬ eaK j < 0 := by decide +kernel
theorem ea_lt : ∀ j, j < 11 → (eaK j < 0 ↔ j = 10) := by decide +kernel
/-- of the ears 9, 8 .. the first j: how many fit, and the least that does -/
def ftL (S g : Nat → Int32) (N d n : Nat) : Nat → Int32 × Int32
  | 0 => (0, -3)
  | j + 1 => if tdS (upd S (7 + 5 * d + 2) (nI (9 - j))) g N n then ((ftL S g N d n j).1 + 1, nI (9 - j)) else ftL S g N d n j
theorem ft_y {S g : Nat → Int32} {N d n j : Nat} (h : tdS (upd S (7 + 5 * d + 2) (nI (9 - j))) g N n) : ftL S g N d n (j + 1) = ((ftL S g N d n j).1 + 1, nI (9 - j)) := by rw [ftL, if_pos h]
theorem ft_n {S g : Nat → Int32} {N d n j : Nat} (h : ¬ tdS (upd S (7 + 5 * d + 2) (nI (9 - j))) g N n) : ftL S g N d n (j + 1) = ftL S g N d n j := by rw [ftL, if_neg h]
abbrev fiG (S : Nat → Int32) (x y z : Int32) : Prop := (0 ≤ x ∧ x ≤ 3) ∧ (0 ≤ y ∧ y < S 0) ∧ (0 ≤ z ∧ z ≤ 1)
def R_fiC (S g : Nat → Int32) (N n : Nat) (y z : Int32) : Int32 := if z = 0 then (ftL S g N y.toNatClampNeg n 10).1 else (ftL S g N y.toNatClampNeg n 10).2
def R_fits (S T Z M : Nat → Int32) (N : Nat) (x y z : Int32) : Int32 := if fiG S x y z then (if T x.toNatClampNeg < 0 then -11 else R_fiC S (fun k => M (40 * x.toNatClampNeg + k)) N (Z x.toNatClampNeg).toNatClampNeg y z) else -1
theorem td_c {x : Int64} : lg_cmp x x = 0 := by unfold lg_cmp; rw [if_neg (Int64.lt_irrefl), if_pos rfl]
theorem lg_e0 {x y : Int64} : lg_cmp x y = 0 ↔ x = y := by
  constructor
  · intro h
    unfold lg_cmp at h
    by_cases h1 : x > y
    · rw [if_pos h1] at h; exact absurd h (by decide)
    · rw [if_neg h1] at h
      by_cases h2 : x = y
      · exact h2
      · rw [if_neg h2] at h; exact absurd h (by decide)
  · intro h; rw [h]; exact td_c
theorem i64_m1 {a : Int32} : a.toInt64 = -1 ↔ a = -1 := ⟨fun h => Decidable.not_not.mp (fun z => Int32.toInt64_ne_neg_one a z h), fun h => by rw [h]; decide⟩
theorem td_a {a : Int32} {x : Int64} (hx : x = a.toInt64) (h : lg_cmp x (-1) = 0) : a = -1 := i64_m1.mp (hx.symm.trans (lg_e0.mp h))
theorem td_a2 {a : Int32} {x : Int64} (hx : x = a.toInt64) (h : a = -1) : lg_cmp x (-1) = 0 := lg_e0.mpr (hx.trans (i64_m1.mpr h))
theorem td_b {a b : Int32} {x : Int64} (hx : x = a.toInt64) (h : lg_cmp x b.toInt64 = 0) : a = b := by
  have h1 := (lg_e0.mp h)
  rw [hx] at h1
  have h2 := congrArg Int64.toInt32 h1
  rw [Int32.toInt32_toInt64, Int32.toInt32_toInt64] at h2
  exact h2
theorem td_b2 {a b : Int32} {x : Int64} (hx : x = a.toInt64) (h : a = b) : lg_cmp x b.toInt64 = 0 := lg_e0.mpr (hx.trans (by rw [h]))
theorem y10 (y : Int32) : (0 ≤ y - 10 ∧ y - 10 ≤ 3) ↔ (10 ≤ y ∧ y ≤ 13) := by
  have h10 : (10 : Int32).toInt = 10 := by decide
  have h0 : (0 : Int32).toInt = 0 := by decide
  have h3 : (3 : Int32).toInt = 3 := by decide
  have h13 : (13 : Int32).toInt = 13 := by decide
  have a := Int32.le_toInt y
  have b := Int32.toInt_lt y
  rw [Int32.le_iff_toInt_le, Int32.le_iff_toInt_le, Int32.le_iff_toInt_le, Int32.le_iff_toInt_le, Int32.toInt_sub, h10, h0, h3, h13]
  by_cases hl : y.toInt - 10 < -2147483648
  · have e1 : (y.toInt - 10).bmod (2 ^ 32) = y.toInt - 10 + 4294967296 := by
      rw [← Int.add_bmod_right]
      exact Int.bmod_eq_of_le (by omega) (by omega)
    rw [e1]
    omega
  · rw [Int.bmod_eq_of_le (by omega) (by omega)]
    omega
theorem se_y {y : Int32} (h : -1 ≤ y) (h2 : ¬ y = -1) : 0 ≤ y := by
  rw [Int32.le_iff_toInt_le] at h ⊢
  have h3 : ¬ y.toInt = -1 := fun z => h2 (Int32.toInt_inj.mp (by rw [z]; decide))
  rw [show ((-1 : Int32)).toInt = -1 from by decide] at h
  rw [show ((0 : Int32)).toInt = 0 from by decide]
  omega
/-- sheets that were made: the object's place, its row's place, sort, size, what stands there -/
abbrev PE : Type := Nat × Nat × Int32 × Nat × (Nat → Int64)
def pw (q : Nat → ClassId) : List PE → va_W
  | [] => []
  | e :: P => (e.1, .inr (1, [.int e.2.2.1, .ref e.2.1])) :: (e.2.1, aJ (q 3) e.2.2.2.1 e.2.2.2.2) :: pw q P
