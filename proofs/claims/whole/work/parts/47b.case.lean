section LAW
variable {p : Program} {l : Launch} {e : Env} {s : State} {m : MethodId} {below : List Frame} {meth : Method} {c : Code} {D : va_G} {q : Nat → ClassId} {tt : Nat → Nat} {b L : Nat} {xs : Nat → Int32}
variable {pc : Nat} {lv : List (Nat × Value)} {st : List Value} {ws : va_W} {cells slots : Nat}
set_option maxRecDepth 100000 in
set_option maxHeartbeats 4000000 in
theorem lz_feed {B : Nat → Nat → Nat} {a : Nat → Nat} {o : OC} {h1 h2 h3 : HC} {t : TC} {g : GC} {P : List PE} {v : MC} {N n rn c0 k : Nat} (X : Lx p s m meth c D q tt b L xs) (r : LR o h1 h3 t g P v N n rn c0) (hk : k + 5 ≤ L) (hc : cells + 10 ≤ 600000) (hs : slots + 60 ≤ 7302250) (kk : ∀ (o : OC) (h1 h2 h3 : HC) (t : TC) (g : GC) (P : List PE) (v : MC) (N n rn c0 c2 s2 : Nat), LR o h1 h3 t g P v N n rn c0 → c2 ≤ cells + 2 → s2 ≤ slots + 42 → GL p l e s m below meth c D b 1625 (lvk b B a k) [] ((ow q B o ++ (hw q (B 1) h1 ++ (hw q (B 2) h2 ++ (hw q (B 3) h3 ++ (tw q (B 4) t ++ (sw q (B 5) g)))))) ++ (pw q P ++ mw q a v)) c2 s2) : GL p l e s m below meth c D b 228 (lvk b B a k) [] ((ow q B o ++ (hw q (B 1) h1 ++ (hw q (B 2) h2 ++ (hw q (B 3) h3 ++ (tw q (B 4) t ++ (sw q (B 5) g)))))) ++ (pw q P ++ mw q a v)) cells slots := by
  refine g_aloadn X.1 dL_law_228 1 rfl rfl ?_
  refine g_scr X 1 dL_law_229 dL_law_230 dL_law_231 (by decide) dL_law_232 dL_law_233 (by omega) ?_
  refine g_i2l X.1 dL_law_234 ?_
  refine g_bipush X.1 32 dL_law_235 (by decide) ?_
  refine g_lshl X.1 dL_law_237 ?_
  refine g_scr X 2 dL_law_238 dL_law_239 dL_law_240 (by decide) dL_law_241 dL_law_242 (by omega) ?_
  refine g_i2l X.1 dL_law_243 ?_
  refine g_ldc2 X.1 (4294967295) dL_law_244 (show Cond.constantLong RL 13 (4294967295) ∈ wsL_law by decide +kernel) ?_
  refine g_land X.1 dL_law_247 ?_
  refine g_lor X.1 dL_law_248 ?_
  refine g_scr X 3 dL_law_249 dL_law_250 dL_law_251 (by decide) dL_law_252 dL_law_253 (by omega) ?_
  refine g_callLi X.1 (rd_V X.1 (k_X4_feed l D q tt B o h1 h2 h3 t g (m_tape v) n _ (xs (k + 3)) r.tl r.n2 r.tb) gL_law_X4_feed rfl rfl rfl 2 ok_X4_feed rfl 0 rfl rfl (rest := []) rfl rfl (Nat.le_of_ble_eq_true rfl) dL_law_254 ⟨(Nat.le_of_ble_eq_true rfl), (Nat.le_of_ble_eq_true rfl)⟩ ⟨(show cells + _ ≤ 600000 by omega), (show slots + _ ≤ 7302250 by omega)⟩) (fun r1_ u1 h1_ => ?_)
  refine g_asc ?_
  refine g_aloadn X.1 dL_law_257 2 rfl rfl ?_
  refine g_scr X 1 dL_law_258 dL_law_259 dL_law_260 (by decide) dL_law_261 dL_law_262 (by omega) ?_
  refine g_i2l X.1 dL_law_263 ?_
  refine g_bipush X.1 32 dL_law_264 (by decide) ?_
  refine g_lshl X.1 dL_law_266 ?_
  refine g_scr X 2 dL_law_267 dL_law_268 dL_law_269 (by decide) dL_law_270 dL_law_271 (by omega) ?_
  refine g_i2l X.1 dL_law_272 ?_
  refine g_ldc2 X.1 (4294967295) dL_law_273 (show Cond.constantLong RL 13 (4294967295) ∈ wsL_law by decide +kernel) ?_
  refine g_land X.1 dL_law_276 ?_
  refine g_lor X.1 dL_law_277 ?_
  refine g_scr X 3 dL_law_278 dL_law_279 dL_law_280 (by decide) dL_law_281 dL_law_282 (by omega) ?_
  refine g_callRi X.1 (rd_V X.1 (k_X5_feed l D q tt a v n _ (xs (k + 3)) r.tm r.n2) gL_law_X5_feed rfl rfl rfl 2 ok_X5_feed rfl 0 rfl rfl (rest := [.int r1_]) rfl rfl (Nat.le_of_ble_eq_true rfl) dL_law_283 ⟨(Nat.le_of_ble_eq_true rfl), (Nat.le_of_ble_eq_true rfl)⟩ ⟨(show cells + 0 + _ ≤ 600000 by omega), (show slots + 0 + _ ≤ 7302250 by omega)⟩) (fun r2_ u2 h2_ => ?_)
  refine g_asc' ?_
  have e_ : r1_ = r2_ := h1_.1.trans h2_.1.symm
  refine g_icmp_eq X.1 1625 dL_law_286 rfl (fun _ => ?_) (fun h_ => absurd e_ h_)
  exact kk _ _ _ _ _ _ _ _ _ _ _ _ _ _ ⟨r.gd, r.hr, r.kp, r.kh, h1_.2.1, (show u2.2 = _ from h2_.2.2), (N_feed_le r.n2), (show TPU u2.1 _ by rw [h2_.2.1]; exact h1_.2.2.u), (show TPR u1.2 u2.1 _ by rw [h2_.2.1]; exact h1_.2.2), r.ro, r.rc, r.rm, r.r1, r.gb, r.gn, r.mn, r.c3, r.sg, r.sh, r.sd, r.sp, r.sv⟩ (by omega) (by omega)

set_option maxRecDepth 100000 in
set_option maxHeartbeats 4000000 in
theorem lz_act {B : Nat → Nat → Nat} {a : Nat → Nat} {o : OC} {h1 h2 h3 : HC} {t : TC} {g : GC} {P : List PE} {v : MC} {N n rn c0 k : Nat} (X : Lx p s m meth c D q tt b L xs) (r : LR o h1 h3 t g P v N n rn c0) (hk : k + 5 ≤ L) (hc : cells + 10 ≤ 600000) (hs : slots + 60 ≤ 7302250) (kk : ∀ (o : OC) (h1 h2 h3 : HC) (t : TC) (g : GC) (P : List PE) (v : MC) (N n rn c0 c2 s2 : Nat), LR o h1 h3 t g P v N n rn c0 → c2 ≤ cells + 2 → s2 ≤ slots + 42 → GL p l e s m below meth c D b 1625 (lvk b B a k) [] ((ow q B o ++ (hw q (B 1) h1 ++ (hw q (B 2) h2 ++ (hw q (B 3) h3 ++ (tw q (B 4) t ++ (sw q (B 5) g)))))) ++ (pw q P ++ mw q a v)) c2 s2) : GL p l e s m below meth c D b 1510 (lvk b B a k) [] ((ow q B o ++ (hw q (B 1) h1 ++ (hw q (B 2) h2 ++ (hw q (B 3) h3 ++ (tw q (B 4) t ++ (sw q (B 5) g)))))) ++ (pw q P ++ mw q a v)) cells slots := by
  refine g_aloadn X.1 dL_law_1510 1 rfl rfl ?_
  refine g_scr X 1 dL_law_1511 dL_law_1512 dL_law_1513 (by decide) dL_law_1514 dL_law_1515 (by omega) ?_
  refine g_scr X 2 dL_law_1516 dL_law_1517 dL_law_1518 (by decide) dL_law_1519 dL_law_1520 (by omega) ?_
  refine g_scr X 3 dL_law_1521 dL_law_1522 dL_law_1523 (by decide) dL_law_1524 dL_law_1525 (by omega) ?_
  refine g_callLi X.1 (rd_V X.1 (k_X4_act l D q tt B o h1 h2 h3 t g (m_s v) N (xs (k + 1)) (xs (k + 2)) (xs (k + 3)) r.gd r.hr) gL_law_X4_act rfl rfl rfl 3 ok_X4_act rfl 0 rfl rfl (rest := []) rfl rfl (Nat.le_of_ble_eq_true rfl) dL_law_1526 ⟨(Nat.le_of_ble_eq_true rfl), (Nat.le_of_ble_eq_true rfl)⟩ ⟨(show cells + _ ≤ 600000 by omega), (show slots + _ ≤ 7302250 by omega)⟩) (fun r1_ u1 h1_ => ?_)
  refine g_asc ?_
  refine g_aloadn X.1 dL_law_1529 2 rfl rfl ?_
  refine g_scr X 1 dL_law_1530 dL_law_1531 dL_law_1532 (by decide) dL_law_1533 dL_law_1534 (by omega) ?_
  refine g_scr X 2 dL_law_1535 dL_law_1536 dL_law_1537 (by decide) dL_law_1538 dL_law_1539 (by omega) ?_
  refine g_scr X 3 dL_law_1540 dL_law_1541 dL_law_1542 (by decide) dL_law_1543 dL_law_1544 (by omega) ?_
  refine g_callRi X.1 (rd_V X.1 (k_X5_act l D q tt a v N (xs (k + 1)) (xs (k + 2)) (xs (k + 3)) r.gd) gL_law_X5_act rfl rfl rfl 3 ok_X5_act rfl 0 rfl rfl (rest := [.int r1_]) rfl rfl (Nat.le_of_ble_eq_true rfl) dL_law_1545 ⟨(Nat.le_of_ble_eq_true rfl), (Nat.le_of_ble_eq_true rfl)⟩ ⟨(show cells + 0 + _ ≤ 600000 by omega), (show slots + 0 + _ ≤ 7302250 by omega)⟩) (fun r2_ u2 h2_ => ?_)
  refine g_asc' ?_
  obtain ⟨e1_, ea_, eb_⟩ := h1_
  obtain ⟨f1_, fa_, fb_⟩ := h2_
  have e_ : r1_ = r2_ := e1_.trans ((act_congr r.sp).1.trans ((by rw [r.gb] : R_act _ _ (gB g) _ _ _ = R_act _ _ (m_bodies v) _ _ _).trans f1_.symm))
  refine g_icmp_eq X.1 1625 dL_law_1548 rfl (fun _ => ?_) (fun h_ => absurd e_ h_)
  exact kk _ _ _ _ _ _ _ _ _ _ _ _ _ _ ⟨r.gd, r.hr, r.kp, r.kh, r.tl, r.tm, r.n2, r.tu, r.tb, r.ro, r.rc, r.rm, r.r1, (show gB u1 = u2.1 by rw [ea_, fa_, (act_congr r.sp).2.1, r.gb]), eb_, (show u2.2.1 = _ by rw [fb_, (act_congr r.sp).2.2, r.gb]), act_le, r.sg, r.sh, r.sd, r.sp, r.sv⟩ (by omega) (by omega)

set_option maxRecDepth 100000 in
set_option maxHeartbeats 4000000 in
theorem lz_again {B : Nat → Nat → Nat} {a : Nat → Nat} {o : OC} {h1 h2 h3 : HC} {t : TC} {g : GC} {P : List PE} {v : MC} {N n rn c0 k : Nat} (X : Lx p s m meth c D q tt b L xs) (r : LR o h1 h3 t g P v N n rn c0) (hk : k + 5 ≤ L) (hc : cells + 10 ≤ 600000) (hs : slots + 60 ≤ 7302250) (kk : ∀ (o : OC) (h1 h2 h3 : HC) (t : TC) (g : GC) (P : List PE) (v : MC) (N n rn c0 c2 s2 : Nat), LR o h1 h3 t g P v N n rn c0 → c2 ≤ cells + 2 → s2 ≤ slots + 42 → GL p l e s m below meth c D b 1625 (lvk b B a k) [] ((ow q B o ++ (hw q (B 1) h1 ++ (hw q (B 2) h2 ++ (hw q (B 3) h3 ++ (tw q (B 4) t ++ (sw q (B 5) g)))))) ++ (pw q P ++ mw q a v)) c2 s2) : GL p l e s m below meth c D b 1612 (lvk b B a k) [] ((ow q B o ++ (hw q (B 1) h1 ++ (hw q (B 2) h2 ++ (hw q (B 3) h3 ++ (tw q (B 4) t ++ (sw q (B 5) g)))))) ++ (pw q P ++ mw q a v)) cells slots := by
  refine g_aloadn X.1 dL_law_1612 1 rfl rfl ?_
  refine g_callLi X.1 (rd_V X.1 (k_X4_again l D q tt B o h1 h2 h3 t g) gL_law_X4_again rfl rfl rfl 0 ok_X4_again rfl 0 rfl rfl (rest := []) rfl rfl (Nat.le_of_ble_eq_true rfl) dL_law_1613 ⟨(Nat.le_of_ble_eq_true rfl), (Nat.le_of_ble_eq_true rfl)⟩ ⟨(show cells + _ ≤ 600000 by omega), (show slots + _ ≤ 7302250 by omega)⟩) (fun r1_ u1 h1_ => ?_)
  refine g_asc ?_
  refine g_aloadn X.1 dL_law_1616 2 rfl rfl ?_
  refine g_callRi X.1 (rd_V X.1 (k_X5_again l D q tt a v) gL_law_X5_again rfl rfl rfl 0 ok_X5_again rfl 0 rfl rfl (rest := [.int r1_]) rfl rfl (Nat.le_of_ble_eq_true rfl) dL_law_1617 ⟨(Nat.le_of_ble_eq_true rfl), (Nat.le_of_ble_eq_true rfl)⟩ ⟨(show cells + 0 + _ ≤ 600000 by omega), (show slots + 0 + _ ≤ 7302250 by omega)⟩) (fun r2_ u2 h2_ => ?_)
  refine g_asc' ?_
  have key_ : r1_ = r2_ ∧ ∃ N2, Gd u2 N2 ∧ HR u2 N2 u1 := by
    rcases h1_ with ⟨a1_, b1_, d1_⟩ | ⟨a1_, b1_, d1_⟩
    · rcases h2_ with ⟨a2_, b2_, d2_⟩ | ⟨a2_, b2_, d2_⟩
      · exact ⟨b1_.trans b2_.symm, N, by rw [d2_]; exact r.gd, by rw [d2_, d1_]; exact r.hr⟩
      · exact absurd (r.kp.symm.trans a1_) a2_
    · rcases h2_ with ⟨a2_, b2_, d2_⟩ | ⟨a2_, b2_, d2_⟩
      · exact absurd (r.kp.trans a2_) a1_
      · obtain ⟨N3, g3_, k3_⟩ := r.kh a2_
        have k4_ := d1_ _ _ g3_ k3_
        have e4_ : hN u1 = m_held v 0 := k4_.2.2.1
        exact ⟨b1_.trans (e4_.trans b2_.symm), N3, by rw [d2_]; exact gd_e g3_ cp_e, by rw [d2_]; exact hrq_e g3_.le k4_ cp_e⟩
  obtain ⟨ke_, N2_, hg_, hh_⟩ := key_
  have e_ : r1_ = r2_ := ke_
  refine g_icmp_eq X.1 1625 dL_law_1620 rfl (fun _ => ?_) (fun h_ => absurd e_ h_)
  exact kk _ _ _ _ _ _ _ _ _ _ _ _ _ _ (r.house ⟨hg_, hh_⟩ ⟨rfl, rfl, rfl, rfl, rfl, rfl, rfl, rfl, rfl, rfl, rfl, rfl, rfl, rfl⟩) (by omega) (by omega)
end LAW
