def R_law : String := "HiredClaqueLaw"
def lw_P (b : Addr) (xs : List Int32) (args : Array Value) (s : State) : Prop := args = #[.ref b] ∧ s.IntsAt b xs ∧ xs.length ≤ 2560 ∧ (Jvm.Cond.and given_1 narrow_1).before args s = true
def lw_Q (_ : Array Value) (s : State) (o : Outcome) (t : State) : Prop := o = .returned (some (.int 1)) ∧ Framed s o t [] 600000 7302250
def lw_Z (below : List Frame) (a : Array Value) (s : State) : State → Prop := fun t => ∃ o, t.status = .running ∧ Ended t below o ∧ lw_Q a s o t
/-- the law's own end, with 1 on the stack, nothing written that was there before, its room as the claim has it -/
theorem lw_ret {p : Program} {l : Launch} {e : Env} {s : State} {m : MethodId} {below : List Frame} {meth : Method} {c : Code} {b : Nat} (hx : p.tables.exec = Jvm.exec) (hb : c.code = code) (hr : meth.sig.returnType = ret) (hlocks : meth.locks = false) {pc : Nat} {H : Heap} {ls : Array Slot} (hdg : decode code pc = .ok (.ireturn, 1)) : W p l e room_1 s m #[Value.ref b] below meth c H [] 600000 7302250 (lw_Z below #[Value.ref b] s) (F0 m pc ls [.int 1]) := by
  intro T hT X
  obtain ⟨fs, hret, hrun, hended, hW, hframe⟩ := X.leave (v := some (.int 1)) (hlocks := hlocks) (fun h => by rw [hr] at h; cases h)
  have hmeth' : T.vm.method? m = some meth := X.method'
  refine ⟨T.setFrames fs, ?_, .returned (some (.int 1)), hrun, hended, rfl, ⟨_, rfl⟩, hW, hframe⟩
  jvm_step X.here [X.here.top, hx, hb, hdg, hmeth', hr, ret, narrow_b1]
  (try refine ⟨rfl, ?_⟩); (try refine ⟨rfl, ?_⟩)
  first | (intro acts; rw [hret _ acts rfl rfl rfl]) | rw [hret _ _ rfl rfl rfl]
  exact Steps.refl _
/-- what holds at the law's entry: the machine, the code, the tables' words (any of lw_tbl by 'hts w (by decide +kernel)'), the script of L ints xs at the cell b, what the Statement gives of the start (any of its parts by flat_of_before) -/
def lw_At (p : Program) (s : State) (m : MethodId) (meth : Method) (c : Code) (b L : Nat) (xs : Nat → Int32) : Prop :=
  p.tables.exec = Jvm.exec ∧ c.code = code ∧ meth.sig.returnType = ret ∧ c.maxLocals = 4 ∧ s.vm.findClass R_law = some m.cls ∧ (∀ w ∈ lw_tbl, w.before #[Value.ref b] s = true) ∧ va_X b L xs s s.heap ∧ b < s.heap.size ∧ meth.locks = false ∧ (Jvm.Cond.and given_1 narrow_1).before #[Value.ref b] s = true

section LAW
variable {p : Program} {l : Launch} {e : Env} {s : State} {m : MethodId} {below : List Frame} {meth : Method} {c : Code} {D : va_G} {q : Nat → ClassId} {tt : Nat → Nat} {b L : Nat} {xs : Nat → Int32}
variable {pc : Nat} {lv : List (Nat × Value)} {st : List Value} {ws : va_W} {cells slots : Nat}
/-- what is known all through the law -/
def Lx (p : Program) (s : State) (m : MethodId) (meth : Method) (c : Code) (D : va_G) (q : Nat → ClassId) (tt : Nat → Nat) (b L : Nat) (xs : Nat → Int32) : Prop := Cx p s m #[Value.ref b] meth c cL_law 4 wsL_law RL D q tt (fun a => s.heap.size ≤ a) ∧ va_X b L xs s s.heap ∧ b < s.heap.size ∧ L ≤ 2560
/-- the law's goal -/
abbrev GL (p : Program) (l : Launch) (e : Env) (s : State) (m : MethodId) (below : List Frame) (meth : Method) (c : Code) (D : va_G) (b : Nat) (pc : Nat) (lv : List (Nat × Value)) (st : List Value) (ws : va_W) (cells slots : Nat) : Prop := G p l e room_1 s m #[Value.ref b] below meth c 4 D (fun a => s.heap.size ≤ a) (lw_Z below #[Value.ref b] s) pc lv st ws cells slots
/-- a number of the script -/
theorem g_sld (X : Lx p s m meth c D q tt b L xs) {i : Int32} (k : Nat) (hi : i = nI k) (hk : k < L) (hd : decode cL_law pc = .ok (.iaload, 1)) (kk : GL p l e s m below meth c D b (pc + 1) lv (.int (xs k) :: st) ws cells slots) : GL p l e s m below meth c D b pc lv (.int i :: .ref b :: st) ws cells slots := fun H locs ls hP hD hS hl => by
  have h2 : L < 2 ^ 31 := Nat.lt_of_le_of_lt X.2.2.2 (by decide)
  obtain ⟨h1, h3⟩ := ix_in hi hk h2
  exact va_sld X.1.1 X.1.2.1 X.2.1 X.2.2.1 (Nat.not_le.mpr X.2.2.1) hS h1 hd (by rw [h3]; exact kk H locs ls hP hD hS hl)
theorem g_slenS (X : Lx p s m meth c D q tt b L xs) (hd : decode cL_law pc = .ok (.arraylength, 1)) (kk : GL p l e s m below meth c D b (pc + 1) lv (.int (nI L) :: st) ws cells slots) : GL p l e s m below meth c D b pc lv (.ref b :: st) ws cells slots := fun H locs ls hP hD hS hl => va_slen X.1.1 X.1.2.1 X.2.1 X.2.2.1 (Nat.not_le.mpr X.2.2.1) hS hd (kk H locs ls hP hD hS hl)
/-- the law's end -/
theorem g_end (X : Lx p s m meth c D q tt b L xs) (hr : meth.sig.returnType = ret) (hd : decode cL_law pc = .ok (.ireturn, 1)) (h1 : cells ≤ 600000) (h2 : slots ≤ 7302250) : GL p l e s m below meth c D b pc lv [.int 1] ws cells slots := fun H locs ls hP hD hS hl => W.widen (k := 600000) (n := 7302250) h1 h2 (va_forget hS.2.2 (lw_ret X.1.1 X.1.2.1 hr X.1.2.2.2.2.2.1 hd))
theorem lg_self (x : Int64) : lg_cmp x x = 0 := by
  unfold lg_cmp
  simp
/-- the law's locals: the script, the class, the reference, where in the script -/
def lvk (b : Nat) (B : Nat → Nat → Nat) (a : Nat → Nat) (k : Nat) : List (Nat × Value) := [(0, .ref b), (1, .ref (B 0 0)), (2, .ref (a 0)), (3, .int (nI k))]
/-- one number of a call, loaded -/
theorem g_scr (X : Lx p s m meth c D q tt b L xs) {B : Nat → Nat → Nat} {a : Nat → Nat} {k : Nat} (j : Nat) {js : Int} (d0 : decode cL_law pc = .ok (.aload_n 0, 1)) (d1 : decode cL_law (pc + 1) = .ok (.iload_n 3, 1)) (d2 : decode cL_law (pc + 1 + 1) = .ok (.iconst js, 1)) (hj : Int32.ofInt js = nI j) (d3 : decode cL_law (pc + 1 + 1 + 1) = .ok (.iadd, 1)) (d4 : decode cL_law (pc + 1 + 1 + 1 + 1) = .ok (.iaload, 1)) (hk : k + j < L) (kk : GL p l e s m below meth c D b (pc + 1 + 1 + 1 + 1 + 1) (lvk b B a k) (.int (xs (k + j)) :: st) ws cells slots) : GL p l e s m below meth c D b pc (lvk b B a k) st ws cells slots := by
  refine g_aloadn X.1 d0 0 rfl rfl ?_
  refine g_iloadn X.1 d1 3 rfl rfl ?_
  refine g_iconst X.1 (nI j) d2 hj ?_
  refine g_iadd X.1 d3 ?_
  exact g_sld X (k + j) (nI_add k j) hk d4 kk
/-- a sheet's number, size, contents in the class and in the reference -/
def ShJ (P : List PE) (x : Option Nat) (so mn : Int32) (M : Nat → Int32) : Prop := (x = none ∧ so = -1) ∨ ∃ xa ya n f, x = some xa ∧ (xa, ya, so, n, f) ∈ P ∧ (0 ≤ so ∧ so ≤ 3) ∧ n ≤ 40 ∧ mn = nI n ∧ ∀ k, k < n → f k = (M k).toInt64
/-- what a shelf holds -/
def SvJ (P : List PE) (x : Option Nat) (W Wh Wm : Int32) : Prop := (x = none ∧ (W = 0 ∨ W = 1)) ∨ ∃ xa ya n f, x = some xa ∧ (xa, ya, Wh, n, f) ∈ P ∧ W = 2 ∧ n ≤ 40 ∧ Wm = nI n
/-- the class and the reference side by side -/
abbrev LR (o : OC) (h1 h3 : HC) (t : TC) (g : GC) (P : List PE) (v : MC) (N n rn c0 : Nat) : Prop :=
  (Gd (m_s v) N) ∧ (HR (m_s v) N h1) ∧ (o_keeps o = m_isHeld v) ∧ (¬ m_isHeld v = 0 → ∃ N3, Gd (m_held v) N3 ∧ HR (m_held v) N3 h3) ∧ (tL t = nI n) ∧ (m_taped v = nI n) ∧ (n ≤ 200) ∧ (TPU (m_tape v) n) ∧ (TPR (tB t) (m_tape v) n) ∧ (o_rows o = m_rows v) ∧ (o_rowCount o = nI rn) ∧ (m_rowN v = nI rn) ∧ (rn ≤ 10) ∧ (gB g = m_bodies v) ∧ (gN g = nI c0) ∧ (m_ran v = nI c0) ∧ (c0 ≤ 30) ∧ (ShG (m_sortOf v) (m_sizeOf v)) ∧ (∀ j, j < 4 → ShJ P (o_sheets o j) (m_sortOf v j) (m_sizeOf v j) (fun k => m_numbers v (40 * j + k))) ∧ (∀ i j x, i < 4 → j < 4 → o_sheets o i = some x → o_sheets o j = some x → i = j) ∧ (∀ j, j < 4 → o_shelvedPeople o j = ppS (m_holdsWhat v) (m_holdsWhich v) j) ∧ (∀ j, j < 4 → SvJ P (o_shelvedRows o j) (m_holdsWhat v j) (m_holdsWhich v j) (m_holdsMany v j))
theorem LR.gd {o : OC} {h1 h3 : HC} {t : TC} {g : GC} {P : List PE} {v : MC} {N n rn c0 : Nat} (r : LR o h1 h3 t g P v N n rn c0) : Gd (m_s v) N := r.1
theorem LR.hr {o : OC} {h1 h3 : HC} {t : TC} {g : GC} {P : List PE} {v : MC} {N n rn c0 : Nat} (r : LR o h1 h3 t g P v N n rn c0) : HR (m_s v) N h1 := r.2.1
theorem LR.kp {o : OC} {h1 h3 : HC} {t : TC} {g : GC} {P : List PE} {v : MC} {N n rn c0 : Nat} (r : LR o h1 h3 t g P v N n rn c0) : o_keeps o = m_isHeld v := r.2.2.1
theorem LR.kh {o : OC} {h1 h3 : HC} {t : TC} {g : GC} {P : List PE} {v : MC} {N n rn c0 : Nat} (r : LR o h1 h3 t g P v N n rn c0) : ¬ m_isHeld v = 0 → ∃ N3, Gd (m_held v) N3 ∧ HR (m_held v) N3 h3 := r.2.2.2.1
theorem LR.tl {o : OC} {h1 h3 : HC} {t : TC} {g : GC} {P : List PE} {v : MC} {N n rn c0 : Nat} (r : LR o h1 h3 t g P v N n rn c0) : tL t = nI n := r.2.2.2.2.1
theorem LR.tm {o : OC} {h1 h3 : HC} {t : TC} {g : GC} {P : List PE} {v : MC} {N n rn c0 : Nat} (r : LR o h1 h3 t g P v N n rn c0) : m_taped v = nI n := r.2.2.2.2.2.1
theorem LR.n2 {o : OC} {h1 h3 : HC} {t : TC} {g : GC} {P : List PE} {v : MC} {N n rn c0 : Nat} (r : LR o h1 h3 t g P v N n rn c0) : n ≤ 200 := r.2.2.2.2.2.2.1
theorem LR.tu {o : OC} {h1 h3 : HC} {t : TC} {g : GC} {P : List PE} {v : MC} {N n rn c0 : Nat} (r : LR o h1 h3 t g P v N n rn c0) : TPU (m_tape v) n := r.2.2.2.2.2.2.2.1
theorem LR.tb {o : OC} {h1 h3 : HC} {t : TC} {g : GC} {P : List PE} {v : MC} {N n rn c0 : Nat} (r : LR o h1 h3 t g P v N n rn c0) : TPR (tB t) (m_tape v) n := r.2.2.2.2.2.2.2.2.1
theorem LR.ro {o : OC} {h1 h3 : HC} {t : TC} {g : GC} {P : List PE} {v : MC} {N n rn c0 : Nat} (r : LR o h1 h3 t g P v N n rn c0) : o_rows o = m_rows v := r.2.2.2.2.2.2.2.2.2.1
theorem LR.rc {o : OC} {h1 h3 : HC} {t : TC} {g : GC} {P : List PE} {v : MC} {N n rn c0 : Nat} (r : LR o h1 h3 t g P v N n rn c0) : o_rowCount o = nI rn := r.2.2.2.2.2.2.2.2.2.2.1
theorem LR.rm {o : OC} {h1 h3 : HC} {t : TC} {g : GC} {P : List PE} {v : MC} {N n rn c0 : Nat} (r : LR o h1 h3 t g P v N n rn c0) : m_rowN v = nI rn := r.2.2.2.2.2.2.2.2.2.2.2.1
theorem LR.r1 {o : OC} {h1 h3 : HC} {t : TC} {g : GC} {P : List PE} {v : MC} {N n rn c0 : Nat} (r : LR o h1 h3 t g P v N n rn c0) : rn ≤ 10 := r.2.2.2.2.2.2.2.2.2.2.2.2.1
theorem LR.gb {o : OC} {h1 h3 : HC} {t : TC} {g : GC} {P : List PE} {v : MC} {N n rn c0 : Nat} (r : LR o h1 h3 t g P v N n rn c0) : gB g = m_bodies v := r.2.2.2.2.2.2.2.2.2.2.2.2.2.1
theorem LR.gn {o : OC} {h1 h3 : HC} {t : TC} {g : GC} {P : List PE} {v : MC} {N n rn c0 : Nat} (r : LR o h1 h3 t g P v N n rn c0) : gN g = nI c0 := r.2.2.2.2.2.2.2.2.2.2.2.2.2.2.1
theorem LR.mn {o : OC} {h1 h3 : HC} {t : TC} {g : GC} {P : List PE} {v : MC} {N n rn c0 : Nat} (r : LR o h1 h3 t g P v N n rn c0) : m_ran v = nI c0 := r.2.2.2.2.2.2.2.2.2.2.2.2.2.2.2.1
theorem LR.c3 {o : OC} {h1 h3 : HC} {t : TC} {g : GC} {P : List PE} {v : MC} {N n rn c0 : Nat} (r : LR o h1 h3 t g P v N n rn c0) : c0 ≤ 30 := r.2.2.2.2.2.2.2.2.2.2.2.2.2.2.2.2.1
theorem LR.sg {o : OC} {h1 h3 : HC} {t : TC} {g : GC} {P : List PE} {v : MC} {N n rn c0 : Nat} (r : LR o h1 h3 t g P v N n rn c0) : ShG (m_sortOf v) (m_sizeOf v) := r.2.2.2.2.2.2.2.2.2.2.2.2.2.2.2.2.2.1
theorem LR.sh {o : OC} {h1 h3 : HC} {t : TC} {g : GC} {P : List PE} {v : MC} {N n rn c0 : Nat} (r : LR o h1 h3 t g P v N n rn c0) : ∀ j, j < 4 → ShJ P (o_sheets o j) (m_sortOf v j) (m_sizeOf v j) (fun k => m_numbers v (40 * j + k)) := r.2.2.2.2.2.2.2.2.2.2.2.2.2.2.2.2.2.2.1
theorem LR.sd {o : OC} {h1 h3 : HC} {t : TC} {g : GC} {P : List PE} {v : MC} {N n rn c0 : Nat} (r : LR o h1 h3 t g P v N n rn c0) : ∀ i j x, i < 4 → j < 4 → o_sheets o i = some x → o_sheets o j = some x → i = j := r.2.2.2.2.2.2.2.2.2.2.2.2.2.2.2.2.2.2.2.1
theorem LR.sp {o : OC} {h1 h3 : HC} {t : TC} {g : GC} {P : List PE} {v : MC} {N n rn c0 : Nat} (r : LR o h1 h3 t g P v N n rn c0) : ∀ j, j < 4 → o_shelvedPeople o j = ppS (m_holdsWhat v) (m_holdsWhich v) j := r.2.2.2.2.2.2.2.2.2.2.2.2.2.2.2.2.2.2.2.2.1
theorem LR.sv {o : OC} {h1 h3 : HC} {t : TC} {g : GC} {P : List PE} {v : MC} {N n rn c0 : Nat} (r : LR o h1 h3 t g P v N n rn c0) : ∀ j, j < 4 → SvJ P (o_shelvedRows o j) (m_holdsWhat v j) (m_holdsWhich v j) (m_holdsMany v j) := r.2.2.2.2.2.2.2.2.2.2.2.2.2.2.2.2.2.2.2.2.2
/-- all but the house -/
def Sm (v w : MC) : Prop := m_held w = m_held v ∧ m_isHeld w = m_isHeld v ∧ m_tape w = m_tape v ∧ m_taped w = m_taped v ∧ m_rows w = m_rows v ∧ m_rowN w = m_rowN v ∧ m_sortOf w = m_sortOf v ∧ m_sizeOf w = m_sizeOf v ∧ m_numbers w = m_numbers v ∧ m_holdsWhat w = m_holdsWhat v ∧ m_holdsWhich w = m_holdsWhich v ∧ m_holdsMany w = m_holdsMany v ∧ m_bodies w = m_bodies v ∧ m_ran w = m_ran v
theorem LR.house {o : OC} {h1 h3 : HC} {t : TC} {g : GC} {P : List PE} {v w : MC} {N n rn c0 : Nat} (r : LR o h1 h3 t g P v N n rn c0) {k1 : HC} {N2 : Nat} (hs : Gd (m_s w) N2 ∧ HR (m_s w) N2 k1) (e_ : Sm v w) : LR o k1 h3 t g P w N2 n rn c0 := by
  obtain ⟨e1, e2, e3, e4, e5, e6, e7, e8, e9, e10, e11, e12, e13, e14⟩ := e_
  exact ⟨hs.1, hs.2, by rw [e2]; exact r.kp, by rw [e2, e1]; exact r.kh, r.tl, by rw [e4]; exact r.tm, r.n2, by rw [e3]; exact r.tu, by rw [e3]; exact r.tb, by rw [e5]; exact r.ro, r.rc, by rw [e6]; exact r.rm, r.r1, by rw [e13]; exact r.gb, r.gn, by rw [e14]; exact r.mn, r.c3, by rw [e7, e8]; exact r.sg, by rw [e7, e8, e9]; exact r.sh, r.sd, by rw [e10, e11]; exact r.sp, by rw [e10, e11, e12]; exact r.sv⟩
end LAW
