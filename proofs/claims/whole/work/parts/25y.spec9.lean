/-! ACTS: the bodies that begin, and what they answer; n the number of the thing, a its ear, kd its kind -/
def noB (B : Nat → Int32) (c : Nat) (b : Int32) : Nat → Int32 := if c < 30 then upd B c b else B
def noC (c : Nat) : Nat := if c < 30 then c + 1 else c
def noS (z : (Nat → Int32) × Nat) (b : Int32) : (Nat → Int32) × Nat := (noB z.1 z.2 b, noC z.2)
theorem noC_le {c : Nat} (h : c ≤ 30) : noC c ≤ 30 := by unfold noC; split <;> omega
def a10 (n x : Int32) (z : (Nat → Int32) × Nat) : Int32 × ((Nat → Int32) × Nat) := (x - n * 7, noS z 10)
def a30 (n x : Int32) (z : (Nat → Int32) × Nat) : Int32 × ((Nat → Int32) × Nat) := ((a10 n x (noS z 30)).1 ^^^ 1, (a10 n x (noS z 30)).2)
def a40 (n x : Int32) (z : (Nat → Int32) × Nat) : Int32 × ((Nat → Int32) × Nat) := (0 - (a30 n x (noS z 40)).1, (a30 n x (noS z 40)).2)
def a51 (n x : Int32) (z : (Nat → Int32) × Nat) : Int32 × ((Nat → Int32) × Nat) := ((a10 n x (noS z 51)).1 * 3, (a10 n x (noS z 51)).2)
def aCo (n : Int32) (kd : Nat) (x : Int32) (z : (Nat → Int32) × Nat) : Int32 × ((Nat → Int32) × Nat) := if kd = 2 then a30 n x z else if kd = 4 then a40 n x z else if kd = 3 then a51 n x z else a10 n x z
def a11 (n a : Int32) (kd : Nat) (x : Int32) (z : (Nat → Int32) × Nat) : Int32 × ((Nat → Int32) × Nat) := ((aCo n kd x (noS z 11)).1 * 2 + a, (aCo n kd x (noS z 11)).2)
def a20 (n a : Int32) (kd : Nat) (x : Int32) (z : (Nat → Int32) × Nat) : Int32 × ((Nat → Int32) × Nat) := ((a11 n a kd x (noS z 20)).1 - 8, (a11 n a kd x (noS z 20)).2)
def a41 (n a : Int32) (kd : Nat) (x : Int32) (z : (Nat → Int32) × Nat) : Int32 × ((Nat → Int32) × Nat) := ((a11 n a kd x (noS z 41)).1 + (aCo n kd a (a11 n a kd x (noS z 41)).2).1, (aCo n kd a (a11 n a kd x (noS z 41)).2).2)
def aLa (n a : Int32) (kd : Nat) (x : Int32) (z : (Nat → Int32) × Nat) : Int32 × ((Nat → Int32) × Nat) := if kd = 1 ∨ kd = 3 then a20 n a kd x z else if kd = 4 then a41 n a kd x z else a11 n a kd x z
/-- with a third: 1 if it was parted by 0 -/
def a12 (n a x : Int32) (z : (Nat → Int32) × Nat) : Int32 × ((Nat → Int32) × Nat) × Int32 := if n = a then (0, noS z 12, 1) else (x / (a - n), noS z 12, 0)
def a50 (n a x : Int32) (z : (Nat → Int32) × Nat) : Int32 × ((Nat → Int32) × Nat) × Int32 := ((a12 n a (x + a) (noS z 50)).1 - n, (a12 n a (x + a) (noS z 50)).2)
def a61 (n a : Int32) (kd : Nat) (x : Int32) (z : (Nat → Int32) × Nat) : Int32 × ((Nat → Int32) × Nat) × Int32 := if n = a then (0, (a12 n a x (noS z 61)).2) else ((a12 n a x (noS z 61)).1 ^^^ (aCo n kd n (a12 n a x (noS z 61)).2.1).1, (aCo n kd n (a12 n a x (noS z 61)).2.1).2, 0)
def aPa (n a : Int32) (kd : Nat) (x : Int32) (z : (Nat → Int32) × Nat) : Int32 × ((Nat → Int32) × Nat) × Int32 := if kd = 3 then a50 n a x z else if kd = 5 then a61 n a kd x z else a12 n a x z
def a13 (n a : Int32) (kd : Nat) (x : Int32) (z : (Nat → Int32) × Nat) : Int32 × ((Nat → Int32) × Nat) := ((aLa n a kd x (noS z 13)).1 ^^^ 90, (aLa n a kd x (noS z 13)).2)
def a31 (n a : Int32) (kd : Nat) (x : Int32) (z : (Nat → Int32) × Nat) : Int32 × ((Nat → Int32) × Nat) × Int32 := ((a13 n a kd x (noS z 31)).1 - (aPa n a kd n (a13 n a kd x (noS z 31)).2).1, (aPa n a kd n (a13 n a kd x (noS z 31)).2).2)
def a60 (n a : Int32) (kd : Nat) (x : Int32) (z : (Nat → Int32) × Nat) : Int32 × ((Nat → Int32) × Nat) := (5 - (a13 n a kd x (noS z 60)).1, (a13 n a kd x (noS z 60)).2)
def aRi (n a : Int32) (kd : Nat) (x : Int32) (z : (Nat → Int32) × Nat) : Int32 × ((Nat → Int32) × Nat) × Int32 := if kd = 2 ∨ kd = 4 then a31 n a kd x z else if kd = 5 then ((a60 n a kd x z).1, (a60 n a kd x z).2, 0) else ((a13 n a kd x z).1, (a13 n a kd x z).2, 0)
theorem a10_le {n x : Int32} {z : (Nat → Int32) × Nat} (h : z.2 ≤ 30) : (a10 n x z).2.2 ≤ 30 := noC_le h
theorem a30_le {n x : Int32} {z : (Nat → Int32) × Nat} (h : z.2 ≤ 30) : (a30 n x z).2.2 ≤ 30 := noC_le (noC_le h)
theorem a40_le {n x : Int32} {z : (Nat → Int32) × Nat} (h : z.2 ≤ 30) : (a40 n x z).2.2 ≤ 30 := noC_le (noC_le (noC_le h))
theorem a51_le {n x : Int32} {z : (Nat → Int32) × Nat} (h : z.2 ≤ 30) : (a51 n x z).2.2 ≤ 30 := noC_le (noC_le h)
theorem aCo_le {n x : Int32} {kd : Nat} {z : (Nat → Int32) × Nat} (h : z.2 ≤ 30) : (aCo n kd x z).2.2 ≤ 30 := by
  unfold aCo
  split
  · exact a30_le h
  · split
    · exact a40_le h
    · split
      · exact a51_le h
      · exact a10_le h
theorem a11_le {n a x : Int32} {kd : Nat} {z : (Nat → Int32) × Nat} (h : z.2 ≤ 30) : (a11 n a kd x z).2.2 ≤ 30 := aCo_le (n := n) (x := x) (kd := kd) (z := noS z 11) (noC_le h)
theorem a20_le {n a x : Int32} {kd : Nat} {z : (Nat → Int32) × Nat} (h : z.2 ≤ 30) : (a20 n a kd x z).2.2 ≤ 30 := a11_le (n := n) (a := a) (x := x) (kd := kd) (z := noS z 20) (noC_le h)
theorem a41_le {n a x : Int32} {kd : Nat} {z : (Nat → Int32) × Nat} (h : z.2 ≤ 30) : (a41 n a kd x z).2.2 ≤ 30 := aCo_le (n := n) (x := a) (kd := kd) (z := (a11 n a kd x (noS z 41)).2) (a11_le (n := n) (a := a) (x := x) (kd := kd) (z := noS z 41) (noC_le h))
theorem aLa_le {n a x : Int32} {kd : Nat} {z : (Nat → Int32) × Nat} (h : z.2 ≤ 30) : (aLa n a kd x z).2.2 ≤ 30 := by
  unfold aLa
  split
  · exact a20_le h
  · split
    · exact a41_le h
    · exact a11_le h
theorem a12_le {n a x : Int32} {z : (Nat → Int32) × Nat} (h : z.2 ≤ 30) : (a12 n a x z).2.1.2 ≤ 30 := by
  unfold a12
  split
  · exact noC_le h
  · exact noC_le h
theorem a13_le {n a x : Int32} {kd : Nat} {z : (Nat → Int32) × Nat} (h : z.2 ≤ 30) : (a13 n a kd x z).2.2 ≤ 30 := aLa_le (n := n) (a := a) (x := x) (kd := kd) (z := noS z 13) (noC_le h)
theorem i32_sub0 {x y : Int32} (h : x - y = 0) : x = y := by
  have := Int32.sub_add_cancel x y
  rw [h] at this
  rw [← this]
  simp
theorem a12_p {n a x : Int32} {z : (Nat → Int32) × Nat} : (a12 n a x z).2.2 = 0 ↔ ¬ n = a := by
  unfold a12
  by_cases h : n = a
  · rw [if_pos h]
    exact ⟨fun q => absurd (show (1 : Int32) = 0 from q) (by decide), fun q => absurd h q⟩
  · rw [if_neg h]
    exact ⟨fun _ => h, fun _ => rfl⟩
