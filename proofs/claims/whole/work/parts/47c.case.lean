section LAW
variable {p : Program} {l : Launch} {e : Env} {s : State} {m : MethodId} {below : List Frame} {meth : Method} {c : Code} {D : va_G} {q : Nat → ClassId} {tt : Nat → Nat} {b L : Nat} {xs : Nat → Int32}
variable {pc : Nat} {lv : List (Nat × Value)} {st : List Value} {ws : va_W} {cells slots : Nat}
set_option maxRecDepth 100000 in
set_option maxHeartbeats 4000000 in
theorem lz_opera {B : Nat → Nat → Nat} {a : Nat → Nat} {o : OC} {h1 h2 h3 : HC} {t : TC} {g : GC} {P : List PE} {v : MC} {N n rn c0 k : Nat} (X : Lx p s m meth c D q tt b L xs) (r : LR o h1 h3 t g P v N n rn c0) (hk : k + 5 ≤ L) (hc : cells + 10 ≤ 600000) (hs : slots + 60 ≤ 7302250) (kk : ∀ (o : OC) (h1 h2 h3 : HC) (t : TC) (g : GC) (P : List PE) (v : MC) (N n rn c0 c2 s2 : Nat), LR o h1 h3 t g P v N n rn c0 → c2 ≤ cells + 2 → s2 ≤ slots + 42 → GL p l e s m below meth c D b 1625 (lvk b B a k) [] ((ow q B o ++ (hw q (B 1) h1 ++ (hw q (B 2) h2 ++ (hw q (B 3) h3 ++ (tw q (B 4) t ++ (sw q (B 5) g)))))) ++ (pw q P ++ mw q a v)) c2 s2) : GL p l e s m below meth c D b 291 (lvk b B a k) [] ((ow q B o ++ (hw q (B 1) h1 ++ (hw q (B 2) h2 ++ (hw q (B 3) h3 ++ (tw q (B 4) t ++ (sw q (B 5) g)))))) ++ (pw q P ++ mw q a v)) cells slots := by
  refine g_aloadn X.1 dL_law_291 1 rfl rfl ?_
  refine g_callLi X.1 (rd_V X.1 (k_X4_opera l D q tt B o h1 h2 h3 t g (m_s v) N (m_tape v) n r.gd r.hr r.tl r.n2 r.tb) gL_law_X4_opera rfl rfl rfl 0 ok_X4_opera rfl 0 rfl rfl (rest := []) rfl rfl (Nat.le_of_ble_eq_true rfl) dL_law_292 ⟨(Nat.le_of_ble_eq_true rfl), (Nat.le_of_ble_eq_true rfl)⟩ ⟨(show cells + _ ≤ 600000 by omega), (show slots + _ ≤ 7302250 by omega)⟩) (fun r1_ u1 h1_ => ?_)
  refine g_asc ?_
  refine g_aloadn X.1 dL_law_295 2 rfl rfl ?_
  refine g_callRi X.1 (rd_V X.1 (k_X5_opera l D q tt a v n N r.tm r.n2 r.tu r.gd) gL_law_X5_opera rfl rfl rfl 0 ok_X5_opera rfl 0 rfl rfl (rest := [.int r1_]) rfl rfl (Nat.le_of_ble_eq_true rfl) dL_law_296 ⟨(Nat.le_of_ble_eq_true rfl), (Nat.le_of_ble_eq_true rfl)⟩ ⟨(show cells + 0 + _ ≤ 600000 by omega), (show slots + 0 + _ ≤ 7302250 by omega)⟩) (fun r2_ u2 h2_ => ?_)
  refine g_asc' ?_
  obtain ⟨a1_, b1_, c1_, d1_⟩ := h1_
  obtain ⟨a2_, b2_, d2_⟩ := h2_
  have key_ : ∃ N2 rn2, Gd u2.1 N2 ∧ HR u2.1 N2 u1.1 ∧ u1.2.2.2.2.2 = nI rn2 ∧ u2.2.2.2.2.2.2.2 = nI rn2 ∧ rn2 ≤ 10 := by
    by_cases h0_ : (opR (m_tape v) n (m_s v)).1 = 0
    · exact ⟨_, 0, by rw [b2_, if_pos h0_]; exact Gd_op h0_, by rw [b2_, if_pos h0_]; exact b1_ h0_, by rw [d1_, if_pos h0_]; rfl, by rw [d2_, if_pos h0_]; rfl, by omega⟩
    · exact ⟨N, rn, by rw [b2_, if_neg h0_]; exact r.gd, by rw [b2_, if_neg h0_, c1_ h0_]; exact r.hr, by rw [d1_, if_neg h0_]; exact r.rc, by rw [d2_, if_neg h0_]; exact r.rm, r.r1⟩
  obtain ⟨N2_, rn2_, hg_, hh_, er1_, er2_, hr10_⟩ := key_
  have e_ : r1_ = r2_ := a1_.trans a2_.symm
  refine g_icmp_eq X.1 1625 dL_law_299 rfl (fun _ => ?_) (fun h_ => absurd e_ h_)
  exact kk _ _ _ _ _ _ _ _ _ _ _ _ _ _ ⟨hg_, hh_, r.kp, r.kh, (show (0 : Int32) = nI 0 from rfl), (show (0 : Int32) = nI 0 from rfl), (Nat.zero_le 200), (fun k hk => absurd hk (Nat.not_lt_zero k)), (fun k hk => absurd hk (Nat.not_lt_zero k)), r.ro, er1_, er2_, hr10_, r.gb, r.gn, r.mn, r.c3, r.sg, r.sh, r.sd, r.sp, r.sv⟩ (by omega) (by omega)
end LAW
