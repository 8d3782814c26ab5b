/-! FURTHER ROWS: texts, arrays of sheets, cells in another order -/
section GS2
variable {p : Program} {l : Launch} {e : Env} {R : Room} {s : State} {m : MethodId} {args : Array Value} {below : List Frame} {meth : Method} {c : Code} {Q : State → Prop}
variable {cc : ByteArray} {nL : Nat} {Ts : List Cond} {own : String} {D : va_G} {q : Nat → ClassId} {tt : Nat → Nat} {A : Nat → Prop}
variable {pc : Nat} {lv lv' : List (Nat × Value)} {st rest : List Value} {ws ws' : va_W} {cells slots : Nat}
theorem g_aldS (C : Cx p s m args meth c cc nL Ts own D q tt A) {a n y : Nat} {i : Int32} {f : Nat → Option Nat} (q0 k : Nat) (ha : ws[q0]? = some (a, aQ (q 4) n f)) (hi : i = nI k) (hk : k < n) (hn : n < 2 ^ 31) (hy : f k = some y) (hd : decode cc pc = .ok (.aaload, 1)) (kk : G p l e R s m args below meth c nL D A Q (pc + 1) lv (.ref y :: st) ws cells slots) : G p l e R s m args below meth c nL D A Q pc lv (.int i :: .ref a :: st) ws cells slots := g_aldq C q0 k ha hi hk hn hd (fun h => absurd (h.symm.trans hy) (fun z => by cases z)) (fun y2 h => by
  have e_ : y2 = y := Option.some.inj (h.symm.trans hy)
  rw [e_]
  exact kk)
theorem g_aldN (C : Cx p s m args meth c cc nL Ts own D q tt A) {a n : Nat} {i : Int32} {f : Nat → Option Nat} (q0 k : Nat) (ha : ws[q0]? = some (a, aQ (q 4) n f)) (hi : i = nI k) (hk : k < n) (hn : n < 2 ^ 31) (hy : f k = none) (hd : decode cc pc = .ok (.aaload, 1)) (kk : G p l e R s m args below meth c nL D A Q (pc + 1) lv (.null :: st) ws cells slots) : G p l e R s m args below meth c nL D A Q pc lv (.int i :: .ref a :: st) ws cells slots := g_aldq C q0 k ha hi hk hn hd (fun _ => kk) (fun y2 h => absurd (h.symm.trans hy) (fun z => by cases z))
theorem g_i2c (C : Cx p s m args meth c cc nL Ts own D q tt A) {x : Int32} (v : Int32) (hv : (x.toUInt32 % 65536).toInt32 = v) (hd : decode cc pc = .ok (.i2c, 1)) (kk : G p l e R s m args below meth c nL D A Q (pc + 1) lv (.int v :: st) ws cells slots) : G p l e R s m args below meth c nL D A Q pc lv (.int x :: st) ws cells slots := fun H locs ls hP hD hS hl => lv_i2c C.1 C.2.1 hd hv (kk H locs ls hP hD hS hl)
theorem g_scoder (C : Cx p s m args meth c cc nL Ts own D q tt A) {ix : Nat} (i : Nat) (hi : i < 14) (hw : Cond.fieldLink own ix "java/lang/String" "coder" "B" ∈ Ts) (hd : decode cc pc = .ok (.getfield ix, 3)) (kk : G p l e R s m args below meth c nL D A Q (pc + 3) lv (.int 0 :: st) ws cells slots) : G p l e R s m args below meth c nL D A Q pc lv (.ref (tt (10 + i)) :: st) ws cells slots := fun H locs ls hP hD hS hl => vk_getf C.1 C.2.1 (C.2.2.2.2.2.2.1.2.2.2.2.2.2.2.2.1.1 i hi).2.1 hS C.2.2.2.1 (C.2.2.2.2.1 _ hw) (fun _ h => h) hd (kk H locs ls hP hD hS hl)
theorem g_svalue (C : Cx p s m args meth c cc nL Ts own D q tt A) {ix : Nat} (i : Nat) (hi : i < 14) (hw : Cond.fieldLink own ix "java/lang/String" "value" "[B" ∈ Ts) (hd : decode cc pc = .ok (.getfield ix, 3)) (kk : G p l e R s m args below meth c nL D A Q (pc + 3) lv (.ref (tt (30 + i)) :: st) ws cells slots) : G p l e R s m args below meth c nL D A Q pc lv (.ref (tt (10 + i)) :: st) ws cells slots := fun H locs ls hP hD hS hl => vk_getf C.1 C.2.1 (C.2.2.2.2.2.2.1.2.2.2.2.2.2.2.2.1.1 i hi).2.2.1 hS C.2.2.2.1 (C.2.2.2.2.1 _ hw) (fun _ h => h) hd (kk H locs ls hP hD hS hl)
theorem g_slen (C : Cx p s m args meth c cc nL Ts own D q tt A) (i : Nat) (hi : i < 14) (hd : decode cc pc = .ok (.arraylength, 1)) (kk : G p l e R s m args below meth c nL D A Q (pc + 1) lv (.int (Int32.ofNat (txL.getD i 0)) :: st) ws cells slots) : G p l e R s m args below meth c nL D A Q pc lv (.ref (tt (30 + i)) :: st) ws cells slots := fun H locs ls hP hD hS hl => va_tlen C.1 C.2.1 (C.2.2.2.2.2.2.1.2.2.2.2.2.2.2.2.1.1 i hi).2.2.2 hS rfl hd (kk H locs ls hP hD hS hl)
theorem tx_lt : ∀ i, i < 14 → txL.getD i 0 < 2 ^ 31 := by decide +kernel
theorem g_stb (C : Cx p s m args meth c cc nL Ts own D q tt A) {x : Int32} (i k : Nat) (hi : i < 14) (hx : x = nI k) (hk : k < txL.getD i 0) (hd : decode cc pc = .ok (.baload, 1)) (kk : G p l e R s m args below meth c nL D A Q (pc + 1) lv (.int ((txB.getD i []).getD k 0) :: st) ws cells slots) : G p l e R s m args below meth c nL D A Q pc lv (.int x :: .ref (tt (30 + i)) :: st) ws cells slots := fun H locs ls hP hD hS hl => va_tb C.1 C.2.1 (C.2.2.2.2.2.2.1.2.2.2.2.2.2.2.2.1.1 i hi).2.2.2 hS (ix_in hx hk (tx_lt i hi)).1 (show Value.int ((txB.getD i []).getD x.toNatClampNeg 0) = .int ((txB.getD i []).getD k 0) by rw [(ix_in hx hk (tx_lt i hi)).2]) hd (kk H locs ls hP hD hS hl)
theorem g_gcs (C : Cx p s m args meth c cc nL Ts own D q tt A) {ix : Nat} (hw : Cond.fieldLink own ix "java/lang/String" "COMPACT_STRINGS" "Z" ∈ Ts) (hd : decode cc pc = .ok (.getstatic ix, 3)) (kk : G p l e R s m args below meth c nL D A Q (pc + 3) lv (.int 1 :: st) ws cells slots) : G p l e R s m args below meth c nL D A Q pc lv st ws cells slots := fun H locs ls hP hD hS hl => va_gets C.1 C.2.1 C.2.2.2.2.2.2.1.2.2.2.2.2.2.2.1 hS C.2.2.2.1 (C.2.2.2.2.1 _ hw) (fun _ h => h) hd (kk H locs ls hP hD hS hl)
theorem g_gfm (C : Cx p s m args meth c cc nL Ts own D q tt A) {ix : Nat} (hw : Cond.fieldLink own ix "jdk/internal/util/Preconditions" "SIOOBE_FORMATTER" "Ljava/util/function/BiFunction;" ∈ Ts) (hd : decode cc pc = .ok (.getstatic ix, 3)) (kn : G p l e R s m args below meth c nL D A Q (pc + 3) lv (.null :: st) ws cells slots) (ks : ∀ y : Nat, G p l e R s m args below meth c nL D A Q (pc + 3) lv (.ref y :: st) ws cells slots) : G p l e R s m args below meth c nL D A Q pc lv st ws cells slots := fun H locs ls hP hD hS hl => by
  rcases C.2.2.2.2.2.2.1.2.2.2.2.2.2.2.2.2.2.1 with h_ | ⟨t_, h_⟩
  · exact va_gets C.1 C.2.1 h_ hS C.2.2.2.1 (C.2.2.2.2.1 _ hw) (fun _ h => h) hd (kn H locs ls hP hD hS hl)
  · exact va_gets C.1 C.2.1 h_ hS C.2.2.2.1 (C.2.2.2.2.1 _ hw) (fun _ h => h) hd (ks t_ H locs ls hP hD hS hl)
theorem rd_VS (C : Cx p s m args meth c cc nL Ts own D q tt A) {y : MethodName} {W W' : List Cond} {rm : Room} {wc : va_W} {Qc : Nat → Array Value → State → Outcome → State → Prop} {mc ms ix maxL : Nat} {bytes : ByteArray} {ret : Option FieldType} {As : List Value} (i : Nat) (hi : i < 14) (hM : MG l D q tt y W rm (.ref (tt (10 + i)) :: As) wc Qc mc ms) (hG : GoodIn Ts (wsV own ix "java/lang/String" y W)) (hw : W = Cond.code y bytes maxL ret :: W') (hrc : rm.cells = mc) (hrs : rm.slots = ms) (n : Nat) (hd0 : y.cls ≠ "java/lang/invoke/MethodHandle" ∧ y.cls ≠ "java/lang/invoke/VarHandle" ∧ (parseMethodDescriptor y.desc).map (fun d => d.parameters.length) = some n) (hy : y.cls = "java/lang/String") (hst : st = As.reverse ++ .ref (tt (10 + i)) :: rest) (hn : As.length = n) (hlo : (rest.map fun v => v.category).sum ≤ 8) (hd : decode cc pc = .ok (.invokevirtual ix, 3)) (hR : rm.frames + 1 ≤ R.frames ∧ 8 + (maxL + 11) + rm.locals ≤ R.locals) (hce : cells + mc ≤ R.cells ∧ slots + ms ≤ R.slots) : Rd p l e R s m args below meth c nL A D pc lv st rest wc (fun sz => Qc sz (Value.ref (tt (10 + i)) :: As).toArray) mc ms cells slots := by
  intro H locs ls hP hD hS hA hl
  exact va_runV ⟨C.1, C.2.1, C.2.2.1, C.2.2.2.1, C.2.2.2.2.1⟩ (hM H.size) (cwV n C.2.2.2.2.1 hG hw hrc hrs ⟨hy, hd0⟩ hR) ⟨pr_blind, vk_recv (i := i) C.2.2.2.2.2.2.1.2.2.2.2.2.2.2.2.1 hi hS, fun U hU hW => pr_of C.2.2.2.2.2.2.1 hP hD hS hA hU hW⟩ rfl hn hl.1 hst (lv_room hlo) hd hce
/-- the cells in another order -/
theorem va_P.perm {w w' : va_W} {cl : List vw_C} {H : Heap} (h : va_P D cl w H) (hs : ∀ (k : Nat) (x : Nat × va_E), w'[k]? = some x → ∃ i : Nat, w[i]? = some x) : va_P D cl w' H := fun k x hk => by
  obtain ⟨i, hi⟩ := hs k x hk
  exact h i x hi
theorem ap_l {w1 w2 : va_W} {k : Nat} {x : Nat × va_E} (h : w1[k]? = some x) : (w1 ++ w2)[k]? = some x := by rw [List.getElem?_append_left (List.getElem?_eq_some_iff.mp h).1]; exact h
theorem ap_r {w1 w2 : va_W} {k : Nat} {x : Nat × va_E} (h : w2[k]? = some x) : (w1 ++ w2)[w1.length + k]? = some x := by rw [List.getElem?_append_right (by omega), Nat.add_sub_cancel_left]; exact h
theorem ap_c {w1 w2 : va_W} {k : Nat} {x : Nat × va_E} (h : (w1 ++ w2)[k]? = some x) : (k < w1.length ∧ w1[k]? = some x) ∨ (w1.length ≤ k ∧ w2[k - w1.length]? = some x) := by
  by_cases hl : k < w1.length
  · rw [List.getElem?_append_left hl] at h; exact Or.inl ⟨hl, h⟩
  · rw [List.getElem?_append_right (by omega)] at h; exact Or.inr ⟨by omega, h⟩
theorem va_P.mid {w1 w2 w3 : va_W} {cl : List vw_C} {H : Heap} (h : va_P D cl (w1 ++ (w2 ++ w3)) H) : va_P D cl (w2 ++ (w1 ++ w3)) H := h.snd.fst.app (h.fst.app h.snd.snd)
theorem va_D.mid {w1 w2 w3 : va_W} {B : Nat → Prop} (h : va_D B (w1 ++ (w2 ++ w3))) : va_D B (w2 ++ (w1 ++ w3)) := by
  have h1 := h.snd
  refine va_D.app h1.fst (va_D.app h.fst h1.snd (fun i j x y hx hy e => h.apart hx (ap_r hy) e)) (fun i j x y hx hy e => ?_)
  rcases ap_c hy with ⟨_, hy⟩ | ⟨_, hy⟩
  · exact h.apart hy (ap_l hx) e.symm
  · exact h1.apart hx hy e
theorem va_D.pw {w : va_W} {B : Nat → Prop} (h : va_D B w) : w.Pairwise (fun x y => x.1 ≠ y.1) := List.pairwise_iff_getElem.mpr (fun i j hi hj hij e_ => by
  have h2 := h.1 i j w[i] w[j] (List.getElem?_eq_getElem hi) (List.getElem?_eq_getElem hj) e_
  omega)
theorem va_D.of_pw {w : va_W} {B : Nat → Prop} (hp : w.Pairwise (fun x y => x.1 ≠ y.1)) (hB : ∀ x ∈ w, B x.1) : va_D B w := ⟨fun i j x y hi hj e_ => by
  obtain ⟨li, ei⟩ := List.getElem?_eq_some_iff.mp hi
  obtain ⟨lj, ej⟩ := List.getElem?_eq_some_iff.mp hj
  have hp2 := List.pairwise_iff_getElem.mp hp
  by_cases h1 : i < j
  · exact absurd (by rw [ei, ej]; exact e_) (hp2 i j li lj h1)
  · by_cases h2 : j < i
    · exact absurd (by rw [ei, ej]; exact e_.symm) (hp2 j i lj li h2)
    · omega, fun k x hk => hB x (List.mem_of_getElem? hk)⟩
theorem va_D.perm {w w' : va_W} {B : Nat → Prop} (h : va_D B w) (hp : List.Perm w w') : va_D B w' := va_D.of_pw ((hp.pairwise_iff (fun h => Ne.symm h)).mp h.pw) (fun x hx => by
  obtain ⟨i, hi⟩ := List.getElem?_of_mem (hp.mem_iff.mpr hx)
  exact h.2 i x hi)
theorem va_P.permL {w w' : va_W} {cl : List vw_C} {H : Heap} (h : va_P D cl w H) (hp : List.Perm w w') : va_P D cl w' H := va_P.perm h (fun k x hk => List.getElem?_of_mem (hp.mem_iff.mpr (List.mem_of_getElem? hk)))
theorem g_prm (ws' : va_W) (hp : List.Perm ws ws') (kk : G p l e R s m args below meth c nL D A Q pc lv st ws' cells slots) : G p l e R s m args below meth c nL D A Q pc lv st ws cells slots := fun H locs ls hP hD hS hl => kk H locs ls (hP.permL hp) (hD.perm hp) hS hl
theorem g_mid {w1 w2 w3 : va_W} (kk : G p l e R s m args below meth c nL D A Q pc lv st (w2 ++ (w1 ++ w3)) cells slots) : G p l e R s m args below meth c nL D A Q pc lv st (w1 ++ (w2 ++ w3)) cells slots := fun H locs ls hP hD hS hl => kk H locs ls hP.mid hD.mid hS hl
theorem g_asc {w1 w2 w3 : va_W} (kk : G p l e R s m args below meth c nL D A Q pc lv st ((w1 ++ w2) ++ w3) cells slots) : G p l e R s m args below meth c nL D A Q pc lv st (w1 ++ (w2 ++ w3)) cells slots := by
  rw [← List.append_assoc]
  exact kk
theorem g_asc' {w1 w2 w3 : va_W} (kk : G p l e R s m args below meth c nL D A Q pc lv st (w1 ++ (w2 ++ w3)) cells slots) : G p l e R s m args below meth c nL D A Q pc lv st ((w1 ++ w2) ++ w3) cells slots := by
  rw [List.append_assoc]
  exact kk
theorem g_ne {i j : Nat} {x y : Nat × va_E} (hx : ws[i]? = some x) (hy : ws[j]? = some y) (hij : i ≠ j) (kk : x.1 ≠ y.1 → G p l e R s m args below meth c nL D A Q pc lv st ws cells slots) : G p l e R s m args below meth c nL D A Q pc lv st ws cells slots := fun H locs ls hP hD hS hl => kk (fun e_ => hij (hD.1 i j x y hx hy e_)) H locs ls hP hD hS hl
theorem g_far {w1 w2 : va_W} (kk : (∀ (i j : Nat) (x y : Nat × va_E), w1[i]? = some x → w2[j]? = some y → x.1 ≠ y.1) → G p l e R s m args below meth c nL D A Q pc lv st (w1 ++ w2) cells slots) : G p l e R s m args below meth c nL D A Q pc lv st (w1 ++ w2) cells slots := fun H locs ls hP hD hS hl => kk (fun i j x y hx hy => hD.apart hx hy) H locs ls hP hD hS hl
theorem g_callRi (C : Cx p s m args meth c cc nL Ts own D q tt A) {S : Type} {post : Int32 → S → Prop} {out : S → va_W} {w1 w2 : va_W} {av : Array Value} {mc ms : Nat} (hr : Rd p l e R s m args below meth c nL A D pc lv st rest w2 (fun sz => (va_Qi post (Bw D (va_A w2 sz) out) (va_A w2 sz)) av) mc ms cells slots) (kk : ∀ (r : Int32) (u : S), post r u → G p l e R s m args below meth c nL D A Q (pc + 3) lv (.int r :: rest) (w1 ++ out u) (cells + mc) (slots + ms)) : G p l e R s m args below meth c nL D A Q pc lv st (w1 ++ w2) cells slots := g_swap (g_callLi C hr (fun r u hu => g_swap (kk r u hu)))
theorem g_callRl (C : Cx p s m args meth c cc nL Ts own D q tt A) {S : Type} {post : Int64 → S → Prop} {out : S → va_W} {w1 w2 : va_W} {av : Array Value} {mc ms : Nat} (hr : Rd p l e R s m args below meth c nL A D pc lv st rest w2 (fun sz => (va_Ql post (Bw D (va_A w2 sz) out) (va_A w2 sz)) av) mc ms cells slots) (kk : ∀ (r : Int64) (u : S), post r u → G p l e R s m args below meth c nL D A Q (pc + 3) lv (.long r :: rest) (w1 ++ out u) (cells + mc) (slots + ms)) : G p l e R s m args below meth c nL D A Q pc lv st (w1 ++ w2) cells slots := g_swap (g_callLl C hr (fun r u hu => g_swap (kk r u hu)))
theorem g_callRv (C : Cx p s m args meth c cc nL Ts own D q tt A) {S : Type} {post : S → Prop} {out : S → va_W} {w1 w2 : va_W} {av : Array Value} {mc ms : Nat} (hr : Rd p l e R s m args below meth c nL A D pc lv st rest w2 (fun sz => (va_Qv post (Bw D (va_A w2 sz) out) (va_A w2 sz)) av) mc ms cells slots) (kk : ∀ (u : S), post u → G p l e R s m args below meth c nL D A Q (pc + 3) lv (rest) (w1 ++ out u) (cells + mc) (slots + ms)) : G p l e R s m args below meth c nL D A Q pc lv st (w1 ++ w2) cells slots := g_swap (g_callLv C hr (fun u hu => g_swap (kk u hu)))
/-- addresses, by place -/
def aL : List Nat → Nat → Nat
  | [], _ => 0
  | x :: _, 0 => x
  | _ :: l, n + 1 => aL l n
/-- addresses of several blocks in turn -/
def aLL : List (Nat → Nat) → Nat → Nat → Nat
  | [], _ => fun _ => 0
  | x :: _, 0 => x
  | _ :: l, n + 1 => aLL l n
theorem g_prmA {is : List Nat} {w1 w1' : va_W} (hp : pickW w1 is = w1'.map some) (hn : va_nd is = true) (kk : G p l e R s m args below meth c nL D A Q pc lv st w1' cells slots) : G p l e R s m args below meth c nL D A Q pc lv st w1 cells slots := by
  have h2 := g_perm (p := p) (l := l) (e := e) (R := R) (s := s) (m := m) (args := args) (below := below) (meth := meth) (c := c) (nL := nL) (D := D) (A := A) (Q := Q) (pc := pc) (lv := lv) (st := st) (cells := cells) (slots := slots) (w2 := []) hp hn (by rw [List.append_nil]; exact kk)
  rw [List.append_nil] at h2
  exact h2
end GS2
