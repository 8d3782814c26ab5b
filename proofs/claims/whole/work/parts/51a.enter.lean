/-! WHAT HOLDS AT THE LAW'S ENTRY: classes, arrays' classes, the nest, statics, texts -/
theorem in_tb {w : Cond} (h : w ∈ tables_1) : w ∈ lw_tbl := List.mem_append_right _ h
theorem en_ar {s : State} {args : Array Value} {ty : FieldType} (h : (Cond.arrayClass ty).before args s = true) : ∃ cA : ClassId, ArrOfT s cA ty ∧ s.vm.findClass ("[" ++ ty.toString) = some cA := by
  obtain ⟨cA, kA, comp, h1, h2, h3⟩ := Cond.arrayClass_spec h
  exact ⟨cA, fun n z => ⟨fun k h => (by cases h), kA, h2, comp, h3⟩, h1⟩
theorem en_ao {s : State} {args : Array Value} {C : String} (h : (Cond.arrayOver (.object C)).before args s = true) : ∃ cA : ClassId, ArrOfT s cA (.object C) ∧ va_RA s cA (.object C) := by
  obtain ⟨comp, cA, kA, h1, -, h2, h3, h4⟩ := Cond.arrayOver_spec h
  exact ⟨cA, fun n z => ⟨fun k h => (by cases h), kA, h2, comp, h3⟩, kA, comp, h2, h3, h1, h4⟩
set_option maxRecDepth 100000 in
set_option maxHeartbeats 4000000 in
theorem en_0 {s : State} {args : Array Value} (hts : ∀ w ∈ tables_1, w.before args s = true) (hs : ∀ w ∈ flatC (Jvm.Cond.and given_1 narrow_1), w.before args s = true) : ∃ t : Nat, Sz RX4 "LAW_AT_FIRST" t 4 tLF (fun a => s.heap.size ≤ a) s s.heap := by
  have hm : ∀ j, j < 4 → Cond.eq (.elem (.static RX4 "LAW_AT_FIRST" "[I") (.int (Int32.ofNat j))) (.int (tLF.getD j 0)) ∈ flatC (Jvm.Cond.and given_1 narrow_1) := by decide +kernel
  obtain ⟨t, h1, h2⟩ := va_Tof (args := args) (s := s) (tm := .static RX4 "LAW_AT_FIRST" "[I") (ty := .int) (N := 4) (f := sA tLF) (A := fun a => s.heap.size ≤ a) (by decide) (hs _ (by decide +kernel)) (va_eqt (hs (Cond.eq (.length (.static RX4 "LAW_AT_FIRST" "[I")) (.int (Int32.ofNat 4))) (by decide +kernel))) (fun j hj => va_eqt (hs _ (hm j hj))) (fun a h => Nat.not_le.mpr h)
  exact ⟨t, va_Zof (hts _ (by decide +kernel)) (hts _ (by decide +kernel)) h1 (fun a h => Nat.not_le.mpr h), h2⟩
set_option maxRecDepth 100000 in
set_option maxHeartbeats 4000000 in
theorem en_1 {s : State} {args : Array Value} (hts : ∀ w ∈ tables_1, w.before args s = true) (hs : ∀ w ∈ flatC (Jvm.Cond.and given_1 narrow_1), w.before args s = true) : ∃ t : Nat, Sz RX4 "LAW_LEAST" t 4 tLL (fun a => s.heap.size ≤ a) s s.heap := by
  have hm : ∀ j, j < 4 → Cond.eq (.elem (.static RX4 "LAW_LEAST" "[I") (.int (Int32.ofNat j))) (.int (tLL.getD j 0)) ∈ flatC (Jvm.Cond.and given_1 narrow_1) := by decide +kernel
  obtain ⟨t, h1, h2⟩ := va_Tof (args := args) (s := s) (tm := .static RX4 "LAW_LEAST" "[I") (ty := .int) (N := 4) (f := sA tLL) (A := fun a => s.heap.size ≤ a) (by decide) (hs _ (by decide +kernel)) (va_eqt (hs (Cond.eq (.length (.static RX4 "LAW_LEAST" "[I")) (.int (Int32.ofNat 4))) (by decide +kernel))) (fun j hj => va_eqt (hs _ (hm j hj))) (fun a h => Nat.not_le.mpr h)
  exact ⟨t, va_Zof (hts _ (by decide +kernel)) (hts _ (by decide +kernel)) h1 (fun a h => Nat.not_le.mpr h), h2⟩
set_option maxRecDepth 100000 in
set_option maxHeartbeats 4000000 in
theorem en_2 {s : State} {args : Array Value} (hts : ∀ w ∈ tables_1, w.before args s = true) (hs : ∀ w ∈ flatC (Jvm.Cond.and given_1 narrow_1), w.before args s = true) : ∃ t : Nat, Sz RX4 "LAW_MOST" t 4 tLM (fun a => s.heap.size ≤ a) s s.heap := by
  have hm : ∀ j, j < 4 → Cond.eq (.elem (.static RX4 "LAW_MOST" "[I") (.int (Int32.ofNat j))) (.int (tLM.getD j 0)) ∈ flatC (Jvm.Cond.and given_1 narrow_1) := by decide +kernel
  obtain ⟨t, h1, h2⟩ := va_Tof (args := args) (s := s) (tm := .static RX4 "LAW_MOST" "[I") (ty := .int) (N := 4) (f := sA tLM) (A := fun a => s.heap.size ≤ a) (by decide) (hs _ (by decide +kernel)) (va_eqt (hs (Cond.eq (.length (.static RX4 "LAW_MOST" "[I")) (.int (Int32.ofNat 4))) (by decide +kernel))) (fun j hj => va_eqt (hs _ (hm j hj))) (fun a h => Nat.not_le.mpr h)
  exact ⟨t, va_Zof (hts _ (by decide +kernel)) (hts _ (by decide +kernel)) h1 (fun a h => Nat.not_le.mpr h), h2⟩
set_option maxRecDepth 100000 in
set_option maxHeartbeats 4000000 in
theorem en_3 {s : State} {args : Array Value} (hts : ∀ w ∈ tables_1, w.before args s = true) (hs : ∀ w ∈ flatC (Jvm.Cond.and given_1 narrow_1), w.before args s = true) : ∃ t : Nat, Sz RX4 "KIND_ABOVE" t 6 tKA (fun a => s.heap.size ≤ a) s s.heap := by
  have hm : ∀ j, j < 6 → Cond.eq (.elem (.static RX4 "KIND_ABOVE" "[I") (.int (Int32.ofNat j))) (.int (tKA.getD j 0)) ∈ flatC (Jvm.Cond.and given_1 narrow_1) := by decide +kernel
  obtain ⟨t, h1, h2⟩ := va_Tof (args := args) (s := s) (tm := .static RX4 "KIND_ABOVE" "[I") (ty := .int) (N := 6) (f := sA tKA) (A := fun a => s.heap.size ≤ a) (by decide) (hs _ (by decide +kernel)) (va_eqt (hs (Cond.eq (.length (.static RX4 "KIND_ABOVE" "[I")) (.int (Int32.ofNat 6))) (by decide +kernel))) (fun j hj => va_eqt (hs _ (hm j hj))) (fun a h => Nat.not_le.mpr h)
  exact ⟨t, va_Zof (hts _ (by decide +kernel)) (hts _ (by decide +kernel)) h1 (fun a h => Nat.not_le.mpr h), h2⟩
set_option maxRecDepth 100000 in
set_option maxHeartbeats 4000000 in
theorem en_4 {s : State} {args : Array Value} (hts : ∀ w ∈ tables_1, w.before args s = true) (hs : ∀ w ∈ flatC (Jvm.Cond.and given_1 narrow_1), w.before args s = true) : ∃ t : Nat, Sz RX2 "BODY" t 24 tBO (fun a => s.heap.size ≤ a) s s.heap := by
  have hm : ∀ j, j < 24 → Cond.eq (.elem (.static RX2 "BODY" "[I") (.int (Int32.ofNat j))) (.int (tBO.getD j 0)) ∈ flatC (Jvm.Cond.and given_1 narrow_1) := by decide +kernel
  obtain ⟨t, h1, h2⟩ := va_Tof (args := args) (s := s) (tm := .static RX2 "BODY" "[I") (ty := .int) (N := 24) (f := sA tBO) (A := fun a => s.heap.size ≤ a) (by decide) (hs _ (by decide +kernel)) (va_eqt (hs (Cond.eq (.length (.static RX2 "BODY" "[I")) (.int (Int32.ofNat 24))) (by decide +kernel))) (fun j hj => va_eqt (hs _ (hm j hj))) (fun a h => Nat.not_le.mpr h)
  exact ⟨t, va_Zof (hts _ (by decide +kernel)) (hts _ (by decide +kernel)) h1 (fun a h => Nat.not_le.mpr h), h2⟩
/-- the texts' terms -/
def tmS (i : Nat) : Term := .string RX3 (txE.getD i (0, "")).1
set_option maxRecDepth 100000 in
set_option maxHeartbeats 4000000 in
theorem en_s1 : ∀ i, i < 14 → Cond.exactly (tmS i) "java/lang/String" ∈ flatC (Jvm.Cond.and given_1 narrow_1) := by decide +kernel
set_option maxRecDepth 100000 in
set_option maxHeartbeats 4000000 in
theorem en_s2 : ∀ i, i < 14 → Cond.eq (.field (tmS i) "java/lang/String" "coder" "B") (.int 0) ∈ flatC (Jvm.Cond.and given_1 narrow_1) := by decide +kernel
set_option maxRecDepth 100000 in
set_option maxHeartbeats 4000000 in
theorem en_s3 : ∀ i, i < 14 → Cond.arrayOf (.field (tmS i) "java/lang/String" "value" "[B") .byte ∈ flatC (Jvm.Cond.and given_1 narrow_1) := by decide +kernel
set_option maxRecDepth 100000 in
set_option maxHeartbeats 4000000 in
theorem en_s4 : ∀ i, i < 14 → Cond.eq (.length (.field (tmS i) "java/lang/String" "value" "[B")) (.int (Int32.ofNat (txL.getD i 0))) ∈ flatC (Jvm.Cond.and given_1 narrow_1) := by decide +kernel
set_option maxRecDepth 100000 in
set_option maxHeartbeats 4000000 in
theorem en_s5 : ∀ i, i < 14 → ∀ j, j < txL.getD i 0 → Cond.eq (.elem (.field (tmS i) "java/lang/String" "value" "[B") (.int (Int32.ofNat j))) (.int ((txB.getD i []).getD j 0)) ∈ flatC (Jvm.Cond.and given_1 narrow_1) := by decide +kernel
set_option maxRecDepth 100000 in
set_option maxHeartbeats 4000000 in
theorem en_s6_0 : ∀ j, j < 14 → 0 ≠ j → Cond.not (Cond.eq (tmS 0) (tmS j)) ∈ flatC (Jvm.Cond.and given_1 narrow_1) ∨ Cond.not (Cond.eq (tmS j) (tmS 0)) ∈ flatC (Jvm.Cond.and given_1 narrow_1) := by decide +kernel
set_option maxRecDepth 100000 in
set_option maxHeartbeats 4000000 in
theorem en_s6_1 : ∀ j, j < 14 → 1 ≠ j → Cond.not (Cond.eq (tmS 1) (tmS j)) ∈ flatC (Jvm.Cond.and given_1 narrow_1) ∨ Cond.not (Cond.eq (tmS j) (tmS 1)) ∈ flatC (Jvm.Cond.and given_1 narrow_1) := by decide +kernel
set_option maxRecDepth 100000 in
set_option maxHeartbeats 4000000 in
theorem en_s6_2 : ∀ j, j < 14 → 2 ≠ j → Cond.not (Cond.eq (tmS 2) (tmS j)) ∈ flatC (Jvm.Cond.and given_1 narrow_1) ∨ Cond.not (Cond.eq (tmS j) (tmS 2)) ∈ flatC (Jvm.Cond.and given_1 narrow_1) := by decide +kernel
set_option maxRecDepth 100000 in
set_option maxHeartbeats 4000000 in
theorem en_s6_3 : ∀ j, j < 14 → 3 ≠ j → Cond.not (Cond.eq (tmS 3) (tmS j)) ∈ flatC (Jvm.Cond.and given_1 narrow_1) ∨ Cond.not (Cond.eq (tmS j) (tmS 3)) ∈ flatC (Jvm.Cond.and given_1 narrow_1) := by decide +kernel
set_option maxRecDepth 100000 in
set_option maxHeartbeats 4000000 in
theorem en_s6_4 : ∀ j, j < 14 → 4 ≠ j → Cond.not (Cond.eq (tmS 4) (tmS j)) ∈ flatC (Jvm.Cond.and given_1 narrow_1) ∨ Cond.not (Cond.eq (tmS j) (tmS 4)) ∈ flatC (Jvm.Cond.and given_1 narrow_1) := by decide +kernel
set_option maxRecDepth 100000 in
set_option maxHeartbeats 4000000 in
theorem en_s6_5 : ∀ j, j < 14 → 5 ≠ j → Cond.not (Cond.eq (tmS 5) (tmS j)) ∈ flatC (Jvm.Cond.and given_1 narrow_1) ∨ Cond.not (Cond.eq (tmS j) (tmS 5)) ∈ flatC (Jvm.Cond.and given_1 narrow_1) := by decide +kernel
set_option maxRecDepth 100000 in
set_option maxHeartbeats 4000000 in
theorem en_s6_6 : ∀ j, j < 14 → 6 ≠ j → Cond.not (Cond.eq (tmS 6) (tmS j)) ∈ flatC (Jvm.Cond.and given_1 narrow_1) ∨ Cond.not (Cond.eq (tmS j) (tmS 6)) ∈ flatC (Jvm.Cond.and given_1 narrow_1) := by decide +kernel
set_option maxRecDepth 100000 in
set_option maxHeartbeats 4000000 in
theorem en_s6_7 : ∀ j, j < 14 → 7 ≠ j → Cond.not (Cond.eq (tmS 7) (tmS j)) ∈ flatC (Jvm.Cond.and given_1 narrow_1) ∨ Cond.not (Cond.eq (tmS j) (tmS 7)) ∈ flatC (Jvm.Cond.and given_1 narrow_1) := by decide +kernel
set_option maxRecDepth 100000 in
set_option maxHeartbeats 4000000 in
theorem en_s6_8 : ∀ j, j < 14 → 8 ≠ j → Cond.not (Cond.eq (tmS 8) (tmS j)) ∈ flatC (Jvm.Cond.and given_1 narrow_1) ∨ Cond.not (Cond.eq (tmS j) (tmS 8)) ∈ flatC (Jvm.Cond.and given_1 narrow_1) := by decide +kernel
set_option maxRecDepth 100000 in
set_option maxHeartbeats 4000000 in
theorem en_s6_9 : ∀ j, j < 14 → 9 ≠ j → Cond.not (Cond.eq (tmS 9) (tmS j)) ∈ flatC (Jvm.Cond.and given_1 narrow_1) ∨ Cond.not (Cond.eq (tmS j) (tmS 9)) ∈ flatC (Jvm.Cond.and given_1 narrow_1) := by decide +kernel
set_option maxRecDepth 100000 in
set_option maxHeartbeats 4000000 in
theorem en_s6_10 : ∀ j, j < 14 → 10 ≠ j → Cond.not (Cond.eq (tmS 10) (tmS j)) ∈ flatC (Jvm.Cond.and given_1 narrow_1) ∨ Cond.not (Cond.eq (tmS j) (tmS 10)) ∈ flatC (Jvm.Cond.and given_1 narrow_1) := by decide +kernel
set_option maxRecDepth 100000 in
set_option maxHeartbeats 4000000 in
theorem en_s6_11 : ∀ j, j < 14 → 11 ≠ j → Cond.not (Cond.eq (tmS 11) (tmS j)) ∈ flatC (Jvm.Cond.and given_1 narrow_1) ∨ Cond.not (Cond.eq (tmS j) (tmS 11)) ∈ flatC (Jvm.Cond.and given_1 narrow_1) := by decide +kernel
set_option maxRecDepth 100000 in
set_option maxHeartbeats 4000000 in
theorem en_s6_12 : ∀ j, j < 14 → 12 ≠ j → Cond.not (Cond.eq (tmS 12) (tmS j)) ∈ flatC (Jvm.Cond.and given_1 narrow_1) ∨ Cond.not (Cond.eq (tmS j) (tmS 12)) ∈ flatC (Jvm.Cond.and given_1 narrow_1) := by decide +kernel
set_option maxRecDepth 100000 in
set_option maxHeartbeats 4000000 in
theorem en_s6_13 : ∀ j, j < 14 → 13 ≠ j → Cond.not (Cond.eq (tmS 13) (tmS j)) ∈ flatC (Jvm.Cond.and given_1 narrow_1) ∨ Cond.not (Cond.eq (tmS j) (tmS 13)) ∈ flatC (Jvm.Cond.and given_1 narrow_1) := by decide +kernel
theorem en_s6 : ∀ i, i < 14 → ∀ j, j < 14 → i ≠ j → Cond.not (Cond.eq (tmS i) (tmS j)) ∈ flatC (Jvm.Cond.and given_1 narrow_1) ∨ Cond.not (Cond.eq (tmS j) (tmS i)) ∈ flatC (Jvm.Cond.and given_1 narrow_1) := by
  intro i hi
  match i, hi with
  | 0, _ => exact en_s6_0
  | 1, _ => exact en_s6_1
  | 2, _ => exact en_s6_2
  | 3, _ => exact en_s6_3
  | 4, _ => exact en_s6_4
  | 5, _ => exact en_s6_5
  | 6, _ => exact en_s6_6
  | 7, _ => exact en_s6_7
  | 8, _ => exact en_s6_8
  | 9, _ => exact en_s6_9
  | 10, _ => exact en_s6_10
  | 11, _ => exact en_s6_11
  | 12, _ => exact en_s6_12
  | 13, _ => exact en_s6_13
  | i + 14, hi => omega
set_option maxRecDepth 100000 in
set_option maxHeartbeats 4000000 in
theorem en_s7 : ∀ i, i < 14 → Cond.stringRef RX3 (txE.getD i (0, "")).1 (txE.getD i (0, "")).2 ∈ tables_1 := by decide +kernel
theorem en_tx {s : State} {args : Array Value} (hs : ∀ w ∈ flatC (Jvm.Cond.and given_1 narrow_1), w.before args s = true) : ∃ adK adV : Nat → Nat, vk_S 14 txL txB adK adV (fun a => s.heap.size ≤ a) s s.heap ∧ ∀ i : Nat, i < 14 → (tmS i).eval args s none [] s = some (.ref (adK i)) :=
  vk_Sof (tm := tmS) (fun i hi => tx_lt i hi) (fun i hi => hs _ (en_s1 i hi)) (fun i hi => hs _ (en_s2 i hi)) (fun i hi => hs _ (en_s3 i hi)) (fun i hi => hs _ (en_s4 i hi)) (fun i hi j hj => hs _ (en_s5 i hi j hj)) (fun i j hi hj hij => (en_s6 i hi j hj hij).elim (fun z => Or.inl (hs _ z)) (fun z => Or.inr (hs _ z))) (fun a h => Nat.not_le.mpr h)
def ttF (a adK adV : Nat → Nat) : Nat → Nat := fun k => if k < 10 then a k else if k < 30 then adK (k - 10) else adV (k - 30)
theorem ttF_1 {a adK adV : Nat → Nat} {i : Nat} (h : i < 14) : ttF a adK adV (10 + i) = adK i := by
  unfold ttF
  rw [if_neg (by omega), if_pos (by omega), Nat.add_sub_cancel_left]
theorem ttF_2 {a adK adV : Nat → Nat} {i : Nat} (h : i < 14) : ttF a adK adV (30 + i) = adV i := by
  unfold ttF
  rw [if_neg (by omega), if_neg (by omega), Nat.add_sub_cancel_left]
def t5F (t0 t1 t2 t3 t4 : Nat) : Nat → Nat := fun k => match k with
  | 0 => t0
  | 1 => t1
  | 2 => t2
  | 3 => t3
  | _ => t4
set_option maxRecDepth 100000 in
set_option maxHeartbeats 4000000 in
theorem en_sg {s : State} {args : Array Value} (hts : ∀ w ∈ tables_1, w.before args s = true) (hs : ∀ w ∈ flatC (Jvm.Cond.and given_1 narrow_1), w.before args s = true) : ∃ tt : Nat → Nat, Sg tt (fun a => s.heap.size ≤ a) s s.heap := by
  obtain ⟨t0, h0⟩ := en_0 hts hs
  obtain ⟨t1, h1⟩ := en_1 hts hs
  obtain ⟨t2, h2⟩ := en_2 hts hs
  obtain ⟨t3, h3⟩ := en_3 hts hs
  obtain ⟨t4, h4⟩ := en_4 hts hs
  obtain ⟨adK, adV, h6, h7⟩ := en_tx hs
  have hA : ∀ a : Nat, a < s.heap.size → ¬ (fun a => s.heap.size ≤ a) a := fun a h => Nat.not_le.mpr h
  refine ⟨ttF (t5F t0 t1 t2 t3 t4) adK adV, h0, h1, h2, h3, h4, va_Zof (hts _ (by decide +kernel)) (hts _ (by decide +kernel)) (va_eqt (hs _ (by decide +kernel))) hA, ⟨fun i hi => ?_, fun i j hi hj h => ?_⟩, fun i k x e => ?_, va_Zqof (hts _ (by decide +kernel)) (hts _ (by decide +kernel)) (hs _ (by decide +kernel)) hA, va_AO.of (hts _ (by decide +kernel))⟩
  · have e1 : ttF (t5F t0 t1 t2 t3 t4) adK adV (10 + i) = adK i := ttF_1 hi
    have e2 : ttF (t5F t0 t1 t2 t3 t4) adK adV (30 + i) = adV i := ttF_2 hi
    have h8 := h6.1 i hi
    rw [← e1, ← e2] at h8
    exact h8
  · have h8 : ttF (t5F t0 t1 t2 t3 t4) adK adV (10 + i) = ttF (t5F t0 t1 t2 t3 t4) adK adV (10 + j) := h
    rw [ttF_1 hi, ttF_1 hj] at h8
    exact h6.2 i j hi hj h8
  · have hi : i < 14 := (List.getElem?_eq_some_iff.mp e).1
    have e1 : txE.getD i (0, "") = (k, x) := by rw [List.getD_eq_getElem?_getD, e, Option.getD_some]
    have h8 := h7 i hi
    have h9 := hts _ (en_s7 i hi)
    unfold tmS at h8
    rw [e1] at h8 h9
    rw [ttF_1 hi]
    exact vk_R.of h9 h8
def q5F (c0 c1 c2 c3 c4 : ClassId) : Nat → ClassId := fun k => match k with
  | 0 => c0
  | 1 => c1
  | 2 => c2
  | 3 => c3
  | _ => c4
set_option maxRecDepth 100000 in
theorem nw_tb : ∀ w ∈ nwL, w ∈ tables_1 := by decide +kernel
set_option maxRecDepth 100000 in
set_option maxHeartbeats 4000000 in
theorem en_ev {s : State} {args : Array Value} (hT : ∀ w ∈ lw_tbl, w.before args s = true) (hs : ∀ w ∈ flatC (Jvm.Cond.and given_1 narrow_1), w.before args s = true) : ∃ (D : va_G) (q : Nat → ClassId) (tt : Nat → Nat), Ev D q tt (fun a => s.heap.size ≤ a) s s.heap := by
  have hts : ∀ w ∈ tables_1, w.before args s = true := fun w h => hT w (in_tb h)
  obtain ⟨tt, hsg⟩ := en_sg hts hs
  have u0 := u_known (C := RX0) (T := TX0) (N := 11) (n := 11) hT inX0 (hts _ (by decide +kernel))
  have u1 := u_known (C := RX1) (T := TX1) (N := 2) (n := 2) hT inX1 (hts _ (by decide +kernel))
  have u2 := u_known (C := RX2) (T := TX2) (N := 6) (n := 6) hT inX2 (hts _ (by decide +kernel))
  have u3 := u_known (C := RX3) (T := TX3) (N := 5) (n := 5) hT inX3 (hts _ (by decide +kernel))
  have u4 := u_known (C := RX4) (T := TX4) (N := 11) (n := 11) hT inX4 (hts _ (by decide +kernel))
  have u5 := u_known (C := RX5) (T := TX5) (N := 29) (n := 29) hT inX5 (hts _ (by decide +kernel))
  have hD : ∃ f : Nat → ClassId × (Nat → Nat), ∀ (k : Nat), ∀ (w : vw_C), vwCl[k]? = some w → u_Kn s w.1 w.2.1 w.2.2 (f k).1 (f k).2 := by
    apply Classical.axiomOfChoice (r := fun (k : Nat) (y : ClassId × (Nat → Nat)) => ∀ (w : vw_C), vwCl[k]? = some w → u_Kn s w.1 w.2.1 w.2.2 y.1 y.2)
    intro k
    match k with
    | 0 => obtain ⟨y1, y2, hy⟩ := u0; exact ⟨(y1, y2), fun w hw => by cases hw; exact hy⟩
    | 1 => obtain ⟨y1, y2, hy⟩ := u1; exact ⟨(y1, y2), fun w hw => by cases hw; exact hy⟩
    | 2 => obtain ⟨y1, y2, hy⟩ := u2; exact ⟨(y1, y2), fun w hw => by cases hw; exact hy⟩
    | 3 => obtain ⟨y1, y2, hy⟩ := u3; exact ⟨(y1, y2), fun w hw => by cases hw; exact hy⟩
    | 4 => obtain ⟨y1, y2, hy⟩ := u4; exact ⟨(y1, y2), fun w hw => by cases hw; exact hy⟩
    | 5 => obtain ⟨y1, y2, hy⟩ := u5; exact ⟨(y1, y2), fun w hw => by cases hw; exact hy⟩
    | k + 6 => obtain ⟨y1, y2, _⟩ := u0; exact ⟨(y1, y2), fun w hw => by simp [vwCl] at hw⟩
  obtain ⟨f, hf⟩ := hD
  obtain ⟨c0, a0, b0⟩ := en_ar (ty := .int) (hts _ (by decide +kernel))
  obtain ⟨c1, a1, b1⟩ := en_ar (ty := .byte) (hts _ (by decide +kernel))
  obtain ⟨c2, a2, b2⟩ := en_ar (ty := .boolean) (hts _ (by decide +kernel))
  obtain ⟨c3, a3, b3⟩ := en_ar (ty := .long) (hts _ (by decide +kernel))
  obtain ⟨c4, a4, b4⟩ := en_ao (C := RX1) (hts _ (by decide +kernel))
  refine ⟨(fun k => (f k).1, fun k => (f k).2), q5F c0 c1 c2 c3 c4, tt, ⟨fun k w hw => hf k w hw, fun k w hw => ?_⟩, fun w hw => va_Nw.of (nwL_tab w hw) (hts w (nw_tb w hw)), hsg⟩
  match k, hw with
  | 0, hw => cases hw; exact ⟨a0, b0⟩
  | 1, hw => cases hw; exact ⟨a1, b1⟩
  | 2, hw => cases hw; exact ⟨a2, b2⟩
  | 3, hw => cases hw; exact ⟨a3, b3⟩
  | 4, hw => cases hw; exact ⟨a4, b4⟩
  | k + 5, hw => simp [tyL] at hw
