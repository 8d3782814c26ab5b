section LAW
variable {p : Program} {l : Launch} {e : Env} {s : State} {m : MethodId} {below : List Frame} {meth : Method} {c : Code} {D : va_G} {q : Nat → ClassId} {tt : Nat → Nat} {b L : Nat} {xs : Nat → Int32}
variable {pc : Nat} {lv : List (Nat × Value)} {st : List Value} {ws : va_W} {cells slots : Nat}
set_option maxRecDepth 100000 in
set_option maxHeartbeats 4000000 in
theorem lz_row {B : Nat → Nat → Nat} {a : Nat → Nat} {o : OC} {h1 h2 h3 : HC} {t : TC} {g : GC} {P : List PE} {v : MC} {N n rn c0 k : Nat} (X : Lx p s m meth c D q tt b L xs) (r : LR o h1 h3 t g P v N n rn c0) (hk : k + 5 ≤ L) (hc : cells + 10 ≤ 600000) (hs : slots + 60 ≤ 7302250) (kk : ∀ (o : OC) (h1 h2 h3 : HC) (t : TC) (g : GC) (P : List PE) (v : MC) (N n rn c0 c2 s2 : Nat), LR o h1 h3 t g P v N n rn c0 → c2 ≤ cells + 2 → s2 ≤ slots + 42 → GL p l e s m below meth c D b 1625 (lvk b B a k) [] ((ow q B o ++ (hw q (B 1) h1 ++ (hw q (B 2) h2 ++ (hw q (B 3) h3 ++ (tw q (B 4) t ++ (sw q (B 5) g)))))) ++ (pw q P ++ mw q a v)) c2 s2) : GL p l e s m below meth c D b 1153 (lvk b B a k) [] ((ow q B o ++ (hw q (B 1) h1 ++ (hw q (B 2) h2 ++ (hw q (B 3) h3 ++ (tw q (B 4) t ++ (sw q (B 5) g)))))) ++ (pw q P ++ mw q a v)) cells slots := by
  refine g_aloadn X.1 dL_law_1153 1 rfl rfl ?_
  refine g_scr X 1 dL_law_1154 dL_law_1155 dL_law_1156 (by decide) dL_law_1157 dL_law_1158 (by omega) ?_
  refine g_scr X 2 dL_law_1159 dL_law_1160 dL_law_1161 (by decide) dL_law_1162 dL_law_1163 (by omega) ?_
  refine g_callLi X.1 (rd_V X.1 (k_X4_row l D q tt B o h1 h2 h3 t g rn (xs (k + 1)) (xs (k + 2)) r.rc r.r1) gL_law_X4_row rfl rfl rfl 2 ok_X4_row rfl 0 rfl rfl (rest := []) rfl rfl (Nat.le_of_ble_eq_true rfl) dL_law_1164 ⟨(Nat.le_of_ble_eq_true rfl), (Nat.le_of_ble_eq_true rfl)⟩ ⟨(show cells + _ ≤ 600000 by omega), (show slots + _ ≤ 7302250 by omega)⟩) (fun r1_ u1 h1_ => ?_)
  refine g_asc ?_
  refine g_aloadn X.1 dL_law_1167 2 rfl rfl ?_
  refine g_scr X 1 dL_law_1168 dL_law_1169 dL_law_1170 (by decide) dL_law_1171 dL_law_1172 (by omega) ?_
  refine g_scr X 2 dL_law_1173 dL_law_1174 dL_law_1175 (by decide) dL_law_1176 dL_law_1177 (by omega) ?_
  refine g_callRi X.1 (rd_V X.1 (k_X5_row l D q tt a v rn (xs (k + 1)) (xs (k + 2)) r.rm r.r1) gL_law_X5_row rfl rfl rfl 2 ok_X5_row rfl 0 rfl rfl (rest := [.int r1_]) rfl rfl (Nat.le_of_ble_eq_true rfl) dL_law_1178 ⟨(Nat.le_of_ble_eq_true rfl), (Nat.le_of_ble_eq_true rfl)⟩ ⟨(show cells + 0 + _ ≤ 600000 by omega), (show slots + 0 + _ ≤ 7302250 by omega)⟩) (fun r2_ u2 h2_ => ?_)
  refine g_asc' ?_
  have e_ : r1_ = r2_ := h1_.trans ((by rw [r.ro] : R_row (o_rows o) rn _ _ = R_row (m_rows v) rn _ _).trans h2_.symm)
  refine g_icmp_eq X.1 1625 dL_law_1181 rfl (fun _ => ?_) (fun h_ => absurd e_ h_)
  exact kk _ _ _ _ _ _ _ _ _ _ _ _ _ _ (r.house ⟨r.gd, r.hr⟩ ⟨rfl, rfl, rfl, rfl, rfl, rfl, rfl, rfl, rfl, rfl, rfl, rfl, rfl, rfl⟩) (by omega) (by omega)

set_option maxRecDepth 100000 in
set_option maxHeartbeats 4000000 in
theorem lz_trace {B : Nat → Nat → Nat} {a : Nat → Nat} {o : OC} {h1 h2 h3 : HC} {t : TC} {g : GC} {P : List PE} {v : MC} {N n rn c0 k : Nat} (X : Lx p s m meth c D q tt b L xs) (r : LR o h1 h3 t g P v N n rn c0) (hk : k + 5 ≤ L) (hc : cells + 10 ≤ 600000) (hs : slots + 60 ≤ 7302250) (kk : ∀ (o : OC) (h1 h2 h3 : HC) (t : TC) (g : GC) (P : List PE) (v : MC) (N n rn c0 c2 s2 : Nat), LR o h1 h3 t g P v N n rn c0 → c2 ≤ cells + 2 → s2 ≤ slots + 42 → GL p l e s m below meth c D b 1625 (lvk b B a k) [] ((ow q B o ++ (hw q (B 1) h1 ++ (hw q (B 2) h2 ++ (hw q (B 3) h3 ++ (tw q (B 4) t ++ (sw q (B 5) g)))))) ++ (pw q P ++ mw q a v)) c2 s2) : GL p l e s m below meth c D b 1553 (lvk b B a k) [] ((ow q B o ++ (hw q (B 1) h1 ++ (hw q (B 2) h2 ++ (hw q (B 3) h3 ++ (tw q (B 4) t ++ (sw q (B 5) g)))))) ++ (pw q P ++ mw q a v)) cells slots := by
  refine g_aloadn X.1 dL_law_1553 1 rfl rfl ?_
  refine g_scr X 1 dL_law_1554 dL_law_1555 dL_law_1556 (by decide) dL_law_1557 dL_law_1558 (by omega) ?_
  refine g_callLi X.1 (rd_V X.1 (k_X4_trace l D q tt B o h1 h2 h3 t g c0 (xs (k + 1)) r.gn r.c3) gL_law_X4_trace rfl rfl rfl 1 ok_X4_trace rfl 0 rfl rfl (rest := []) rfl rfl (Nat.le_of_ble_eq_true rfl) dL_law_1559 ⟨(Nat.le_of_ble_eq_true rfl), (Nat.le_of_ble_eq_true rfl)⟩ ⟨(show cells + _ ≤ 600000 by omega), (show slots + _ ≤ 7302250 by omega)⟩) (fun r1_ u1 h1_ => ?_)
  refine g_asc ?_
  refine g_aloadn X.1 dL_law_1562 2 rfl rfl ?_
  refine g_scr X 1 dL_law_1563 dL_law_1564 dL_law_1565 (by decide) dL_law_1566 dL_law_1567 (by omega) ?_
  refine g_callRi X.1 (rd_V X.1 (k_X5_trace l D q tt a v c0 (xs (k + 1)) r.mn r.c3) gL_law_X5_trace rfl rfl rfl 1 ok_X5_trace rfl 0 rfl rfl (rest := [.int r1_]) rfl rfl (Nat.le_of_ble_eq_true rfl) dL_law_1568 ⟨(Nat.le_of_ble_eq_true rfl), (Nat.le_of_ble_eq_true rfl)⟩ ⟨(show cells + 0 + _ ≤ 600000 by omega), (show slots + 0 + _ ≤ 7302250 by omega)⟩) (fun r2_ u2 h2_ => ?_)
  refine g_asc' ?_
  have e_ : r1_ = r2_ := h1_.trans ((by rw [r.gb] : R_trace (gB g) c0 _ = R_trace (m_bodies v) c0 _).trans h2_.symm)
  refine g_icmp_eq X.1 1625 dL_law_1571 rfl (fun _ => ?_) (fun h_ => absurd e_ h_)
  exact kk _ _ _ _ _ _ _ _ _ _ _ _ _ _ (r.house ⟨r.gd, r.hr⟩ ⟨rfl, rfl, rfl, rfl, rfl, rfl, rfl, rfl, rfl, rfl, rfl, rfl, rfl, rfl⟩) (by omega) (by omega)

set_option maxRecDepth 100000 in
set_option maxHeartbeats 4000000 in
theorem lz_many {B : Nat → Nat → Nat} {a : Nat → Nat} {o : OC} {h1 h2 h3 : HC} {t : TC} {g : GC} {P : List PE} {v : MC} {N n rn c0 k : Nat} (X : Lx p s m meth c D q tt b L xs) (r : LR o h1 h3 t g P v N n rn c0) (hk : k + 5 ≤ L) (hc : cells + 10 ≤ 600000) (hs : slots + 60 ≤ 7302250) (kk : ∀ (o : OC) (h1 h2 h3 : HC) (t : TC) (g : GC) (P : List PE) (v : MC) (N n rn c0 c2 s2 : Nat), LR o h1 h3 t g P v N n rn c0 → c2 ≤ cells + 2 → s2 ≤ slots + 42 → GL p l e s m below meth c D b 1625 (lvk b B a k) [] ((ow q B o ++ (hw q (B 1) h1 ++ (hw q (B 2) h2 ++ (hw q (B 3) h3 ++ (tw q (B 4) t ++ (sw q (B 5) g)))))) ++ (pw q P ++ mw q a v)) c2 s2) : GL p l e s m below meth c D b 1576 (lvk b B a k) [] ((ow q B o ++ (hw q (B 1) h1 ++ (hw q (B 2) h2 ++ (hw q (B 3) h3 ++ (tw q (B 4) t ++ (sw q (B 5) g)))))) ++ (pw q P ++ mw q a v)) cells slots := by
  refine g_aloadn X.1 dL_law_1576 1 rfl rfl ?_
  refine g_scr X 1 dL_law_1577 dL_law_1578 dL_law_1579 (by decide) dL_law_1580 dL_law_1581 (by omega) ?_
  refine g_callLi X.1 (rd_V X.1 (k_X4_many l D q tt B o h1 h2 h3 t g (m_s v) N (xs (k + 1)) r.gd r.hr) gL_law_X4_many rfl rfl rfl 1 ok_X4_many rfl 0 rfl rfl (rest := []) rfl rfl (Nat.le_of_ble_eq_true rfl) dL_law_1582 ⟨(Nat.le_of_ble_eq_true rfl), (Nat.le_of_ble_eq_true rfl)⟩ ⟨(show cells + _ ≤ 600000 by omega), (show slots + _ ≤ 7302250 by omega)⟩) (fun r1_ u1 h1_ => ?_)
  refine g_asc ?_
  refine g_aloadn X.1 dL_law_1585 2 rfl rfl ?_
  refine g_scr X 1 dL_law_1586 dL_law_1587 dL_law_1588 (by decide) dL_law_1589 dL_law_1590 (by omega) ?_
  refine g_callRi X.1 (rd_V X.1 (k_X5_many l D q tt a v N (xs (k + 1)) r.gd) gL_law_X5_many rfl rfl rfl 1 ok_X5_many rfl 0 rfl rfl (rest := [.int r1_]) rfl rfl (Nat.le_of_ble_eq_true rfl) dL_law_1591 ⟨(Nat.le_of_ble_eq_true rfl), (Nat.le_of_ble_eq_true rfl)⟩ ⟨(show cells + 0 + _ ≤ 600000 by omega), (show slots + 0 + _ ≤ 7302250 by omega)⟩) (fun r2_ u2 h2_ => ?_)
  refine g_asc' ?_
  have e_ : r1_ = r2_ := h1_.trans ((by rw [r.rc, r.rm, r.tl, r.tm, r.gn, r.mn] : R_many (m_s v) N (o_rowCount o) (tL t) (gN g) _ = R_many (m_s v) N (m_rowN v) (m_taped v) (m_ran v) _).trans h2_.symm)
  refine g_icmp_eq X.1 1625 dL_law_1594 rfl (fun _ => ?_) (fun h_ => absurd e_ h_)
  exact kk _ _ _ _ _ _ _ _ _ _ _ _ _ _ (r.house ⟨r.gd, r.hr⟩ ⟨rfl, rfl, rfl, rfl, rfl, rfl, rfl, rfl, rfl, rfl, rfl, rfl, rfl, rfl⟩) (by omega) (by omega)

set_option maxRecDepth 100000 in
set_option maxHeartbeats 4000000 in
theorem lz_set {B : Nat → Nat → Nat} {a : Nat → Nat} {o : OC} {h1 h2 h3 : HC} {t : TC} {g : GC} {P : List PE} {v : MC} {N n rn c0 k : Nat} (X : Lx p s m meth c D q tt b L xs) (r : LR o h1 h3 t g P v N n rn c0) (hk : k + 5 ≤ L) (hc : cells + 10 ≤ 600000) (hs : slots + 60 ≤ 7302250) (kk : ∀ (o : OC) (h1 h2 h3 : HC) (t : TC) (g : GC) (P : List PE) (v : MC) (N n rn c0 c2 s2 : Nat), LR o h1 h3 t g P v N n rn c0 → c2 ≤ cells + 2 → s2 ≤ slots + 42 → GL p l e s m below meth c D b 1625 (lvk b B a k) [] ((ow q B o ++ (hw q (B 1) h1 ++ (hw q (B 2) h2 ++ (hw q (B 3) h3 ++ (tw q (B 4) t ++ (sw q (B 5) g)))))) ++ (pw q P ++ mw q a v)) c2 s2) : GL p l e s m below meth c D b 304 (lvk b B a k) [] ((ow q B o ++ (hw q (B 1) h1 ++ (hw q (B 2) h2 ++ (hw q (B 3) h3 ++ (tw q (B 4) t ++ (sw q (B 5) g)))))) ++ (pw q P ++ mw q a v)) cells slots := by
  refine g_aloadn X.1 dL_law_304 1 rfl rfl ?_
  refine g_scr X 1 dL_law_305 dL_law_306 dL_law_307 (by decide) dL_law_308 dL_law_309 (by omega) ?_
  refine g_scr X 2 dL_law_310 dL_law_311 dL_law_312 (by decide) dL_law_313 dL_law_314 (by omega) ?_
  refine g_callLi X.1 (rd_V X.1 (k_X4_set l D q tt B o h1 h2 h3 t g (m_s v) N (xs (k + 1)) (xs (k + 2)) r.gd r.hr) gL_law_X4_set rfl rfl rfl 2 ok_X4_set rfl 0 rfl rfl (rest := []) rfl rfl (Nat.le_of_ble_eq_true rfl) dL_law_315 ⟨(Nat.le_of_ble_eq_true rfl), (Nat.le_of_ble_eq_true rfl)⟩ ⟨(show cells + _ ≤ 600000 by omega), (show slots + _ ≤ 7302250 by omega)⟩) (fun r1_ u1 h1_ => ?_)
  refine g_asc ?_
  refine g_aloadn X.1 dL_law_318 2 rfl rfl ?_
  refine g_scr X 1 dL_law_319 dL_law_320 dL_law_321 (by decide) dL_law_322 dL_law_323 (by omega) ?_
  refine g_scr X 2 dL_law_324 dL_law_325 dL_law_326 (by decide) dL_law_327 dL_law_328 (by omega) ?_
  refine g_callRi X.1 (rd_V X.1 (k_X5_set l D q tt a v N (xs (k + 1)) (xs (k + 2)) r.gd) gL_law_X5_set rfl rfl rfl 2 ok_X5_set rfl 0 rfl rfl (rest := [.int r1_]) rfl rfl (Nat.le_of_ble_eq_true rfl) dL_law_329 ⟨(Nat.le_of_ble_eq_true rfl), (Nat.le_of_ble_eq_true rfl)⟩ ⟨(show cells + 0 + _ ≤ 600000 by omega), (show slots + 0 + _ ≤ 7302250 by omega)⟩) (fun r2_ u2 h2_ => ?_)
  refine g_asc' ?_
  obtain ⟨e1_, N2_, hg_, hh_⟩ := h1_
  have e_ : r1_ = r2_ := e1_.trans h2_.1.symm
  refine g_icmp_eq X.1 1625 dL_law_332 rfl (fun _ => ?_) (fun h_ => absurd e_ h_)
  exact kk _ _ _ _ _ _ _ _ _ _ _ _ _ _ (r.house (N2 := N2_) ⟨(show Gd u2 N2_ by rw [h2_.2]; exact hg_), (show HR u2 N2_ u1 by rw [h2_.2]; exact hh_)⟩ ⟨rfl, rfl, rfl, rfl, rfl, rfl, rfl, rfl, rfl, rfl, rfl, rfl, rfl, rfl⟩) (by omega) (by omega)

set_option maxRecDepth 100000 in
set_option maxHeartbeats 4000000 in
theorem lz_person {B : Nat → Nat → Nat} {a : Nat → Nat} {o : OC} {h1 h2 h3 : HC} {t : TC} {g : GC} {P : List PE} {v : MC} {N n rn c0 k : Nat} (X : Lx p s m meth c D q tt b L xs) (r : LR o h1 h3 t g P v N n rn c0) (hk : k + 5 ≤ L) (hc : cells + 10 ≤ 600000) (hs : slots + 60 ≤ 7302250) (kk : ∀ (o : OC) (h1 h2 h3 : HC) (t : TC) (g : GC) (P : List PE) (v : MC) (N n rn c0 c2 s2 : Nat), LR o h1 h3 t g P v N n rn c0 → c2 ≤ cells + 2 → s2 ≤ slots + 42 → GL p l e s m below meth c D b 1625 (lvk b B a k) [] ((ow q B o ++ (hw q (B 1) h1 ++ (hw q (B 2) h2 ++ (hw q (B 3) h3 ++ (tw q (B 4) t ++ (sw q (B 5) g)))))) ++ (pw q P ++ mw q a v)) c2 s2) : GL p l e s m below meth c D b 360 (lvk b B a k) [] ((ow q B o ++ (hw q (B 1) h1 ++ (hw q (B 2) h2 ++ (hw q (B 3) h3 ++ (tw q (B 4) t ++ (sw q (B 5) g)))))) ++ (pw q P ++ mw q a v)) cells slots := by
  refine g_aloadn X.1 dL_law_360 1 rfl rfl ?_
  refine g_scr X 1 dL_law_361 dL_law_362 dL_law_363 (by decide) dL_law_364 dL_law_365 (by omega) ?_
  refine g_scr X 2 dL_law_366 dL_law_367 dL_law_368 (by decide) dL_law_369 dL_law_370 (by omega) ?_
  refine g_scr X 3 dL_law_371 dL_law_372 dL_law_373 (by decide) dL_law_374 dL_law_375 (by omega) ?_
  refine g_scr X 4 dL_law_376 dL_law_377 dL_law_378 (by decide) dL_law_379 dL_law_380 (by omega) ?_
  refine g_callLi X.1 (rd_V X.1 (k_X4_person l D q tt B o h1 h2 h3 t g (m_s v) N (xs (k + 1)) (xs (k + 2)) (xs (k + 3)) (xs (k + 4)) r.gd r.hr) gL_law_X4_person rfl rfl rfl 4 ok_X4_person rfl 0 rfl rfl (rest := []) rfl rfl (Nat.le_of_ble_eq_true rfl) dL_law_381 ⟨(Nat.le_of_ble_eq_true rfl), (Nat.le_of_ble_eq_true rfl)⟩ ⟨(show cells + _ ≤ 600000 by omega), (show slots + _ ≤ 7302250 by omega)⟩) (fun r1_ u1 h1_ => ?_)
  refine g_asc ?_
  refine g_aloadn X.1 dL_law_384 2 rfl rfl ?_
  refine g_scr X 1 dL_law_385 dL_law_386 dL_law_387 (by decide) dL_law_388 dL_law_389 (by omega) ?_
  refine g_scr X 2 dL_law_390 dL_law_391 dL_law_392 (by decide) dL_law_393 dL_law_394 (by omega) ?_
  refine g_scr X 3 dL_law_395 dL_law_396 dL_law_397 (by decide) dL_law_398 dL_law_399 (by omega) ?_
  refine g_scr X 4 dL_law_400 dL_law_401 dL_law_402 (by decide) dL_law_403 dL_law_404 (by omega) ?_
  refine g_callRi X.1 (rd_V X.1 (k_X5_person l D q tt a v N (xs (k + 1)) (xs (k + 2)) (xs (k + 3)) (xs (k + 4)) r.gd) gL_law_X5_person rfl rfl rfl 4 ok_X5_person rfl 0 rfl rfl (rest := [.int r1_]) rfl rfl (Nat.le_of_ble_eq_true rfl) dL_law_405 ⟨(Nat.le_of_ble_eq_true rfl), (Nat.le_of_ble_eq_true rfl)⟩ ⟨(show cells + 0 + _ ≤ 600000 by omega), (show slots + 0 + _ ≤ 7302250 by omega)⟩) (fun r2_ u2 h2_ => ?_)
  refine g_asc' ?_
  obtain ⟨e1_, N2_, hg_, hh_⟩ := h1_
  have e_ : r1_ = r2_ := e1_.trans h2_.1.symm
  refine g_icmp_eq X.1 1625 dL_law_408 rfl (fun _ => ?_) (fun h_ => absurd e_ h_)
  exact kk _ _ _ _ _ _ _ _ _ _ _ _ _ _ (r.house (N2 := N2_) ⟨(show Gd u2 N2_ by rw [h2_.2]; exact hg_), (show HR u2 N2_ u1 by rw [h2_.2]; exact hh_)⟩ ⟨rfl, rfl, rfl, rfl, rfl, rfl, rfl, rfl, rfl, rfl, rfl, rfl, rfl, rfl⟩) (by omega) (by omega)

set_option maxRecDepth 100000 in
set_option maxHeartbeats 4000000 in
theorem lz_mind {B : Nat → Nat → Nat} {a : Nat → Nat} {o : OC} {h1 h2 h3 : HC} {t : TC} {g : GC} {P : List PE} {v : MC} {N n rn c0 k : Nat} (X : Lx p s m meth c D q tt b L xs) (r : LR o h1 h3 t g P v N n rn c0) (hk : k + 5 ≤ L) (hc : cells + 10 ≤ 600000) (hs : slots + 60 ≤ 7302250) (kk : ∀ (o : OC) (h1 h2 h3 : HC) (t : TC) (g : GC) (P : List PE) (v : MC) (N n rn c0 c2 s2 : Nat), LR o h1 h3 t g P v N n rn c0 → c2 ≤ cells + 2 → s2 ≤ slots + 42 → GL p l e s m below meth c D b 1625 (lvk b B a k) [] ((ow q B o ++ (hw q (B 1) h1 ++ (hw q (B 2) h2 ++ (hw q (B 3) h3 ++ (tw q (B 4) t ++ (sw q (B 5) g)))))) ++ (pw q P ++ mw q a v)) c2 s2) : GL p l e s m below meth c D b 479 (lvk b B a k) [] ((ow q B o ++ (hw q (B 1) h1 ++ (hw q (B 2) h2 ++ (hw q (B 3) h3 ++ (tw q (B 4) t ++ (sw q (B 5) g)))))) ++ (pw q P ++ mw q a v)) cells slots := by
  refine g_aloadn X.1 dL_law_479 1 rfl rfl ?_
  refine g_scr X 1 dL_law_480 dL_law_481 dL_law_482 (by decide) dL_law_483 dL_law_484 (by omega) ?_
  refine g_scr X 2 dL_law_485 dL_law_486 dL_law_487 (by decide) dL_law_488 dL_law_489 (by omega) ?_
  refine g_scr X 3 dL_law_490 dL_law_491 dL_law_492 (by decide) dL_law_493 dL_law_494 (by omega) ?_
  refine g_callLi X.1 (rd_V X.1 (k_X4_mind l D q tt B o h1 h2 h3 t g (m_s v) N (xs (k + 1)) (xs (k + 2)) (xs (k + 3)) r.gd r.hr) gL_law_X4_mind rfl rfl rfl 3 ok_X4_mind rfl 0 rfl rfl (rest := []) rfl rfl (Nat.le_of_ble_eq_true rfl) dL_law_495 ⟨(Nat.le_of_ble_eq_true rfl), (Nat.le_of_ble_eq_true rfl)⟩ ⟨(show cells + _ ≤ 600000 by omega), (show slots + _ ≤ 7302250 by omega)⟩) (fun r1_ u1 h1_ => ?_)
  refine g_asc ?_
  refine g_aloadn X.1 dL_law_498 2 rfl rfl ?_
  refine g_scr X 1 dL_law_499 dL_law_500 dL_law_501 (by decide) dL_law_502 dL_law_503 (by omega) ?_
  refine g_scr X 2 dL_law_504 dL_law_505 dL_law_506 (by decide) dL_law_507 dL_law_508 (by omega) ?_
  refine g_scr X 3 dL_law_509 dL_law_510 dL_law_511 (by decide) dL_law_512 dL_law_513 (by omega) ?_
  refine g_callRi X.1 (rd_V X.1 (k_X5_mind l D q tt a v N (xs (k + 1)) (xs (k + 2)) (xs (k + 3)) r.gd) gL_law_X5_mind rfl rfl rfl 3 ok_X5_mind rfl 0 rfl rfl (rest := [.int r1_]) rfl rfl (Nat.le_of_ble_eq_true rfl) dL_law_514 ⟨(Nat.le_of_ble_eq_true rfl), (Nat.le_of_ble_eq_true rfl)⟩ ⟨(show cells + 0 + _ ≤ 600000 by omega), (show slots + 0 + _ ≤ 7302250 by omega)⟩) (fun r2_ u2 h2_ => ?_)
  refine g_asc' ?_
  obtain ⟨e1_, N2_, hg_, hh_⟩ := h1_
  have e_ : r1_ = r2_ := e1_.trans h2_.1.symm
  refine g_icmp_eq X.1 1625 dL_law_517 rfl (fun _ => ?_) (fun h_ => absurd e_ h_)
  exact kk _ _ _ _ _ _ _ _ _ _ _ _ _ _ (r.house (N2 := N2_) ⟨(show Gd u2 N2_ by rw [h2_.2]; exact hg_), (show HR u2 N2_ u1 by rw [h2_.2]; exact hh_)⟩ ⟨rfl, rfl, rfl, rfl, rfl, rfl, rfl, rfl, rfl, rfl, rfl, rfl, rfl, rfl⟩) (by omega) (by omega)
end LAW
