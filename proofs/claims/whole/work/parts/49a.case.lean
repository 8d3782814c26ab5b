section LAW
variable {p : Program} {l : Launch} {e : Env} {s : State} {m : MethodId} {below : List Frame} {meth : Method} {c : Code} {D : va_G} {q : Nat → ClassId} {tt : Nat → Nat} {b L : Nat} {xs : Nat → Int32}
variable {pc : Nat} {lv : List (Nat × Value)} {st : List Value} {ws : va_W} {cells slots : Nat}
set_option maxRecDepth 100000 in
set_option maxHeartbeats 4000000 in
theorem lz_putN {B : Nat → Nat → Nat} {a : Nat → Nat} {o : OC} {h1 h2 h3 : HC} {t : TC} {g : GC} {P : List PE} {v : MC} {N n rn c0 k : Nat} (X : Lx p s m meth c D q tt b L xs) (r : LR o h1 h3 t g P v N n rn c0) (hk : k + 5 ≤ L) (hc : cells + 10 ≤ 600000) (hs : slots + 60 ≤ 7302250) (jno_ : ∀ j, j < 4 → xs (k + 1) = nI j → (o_sheets o) j = none) (kk : ∀ (o : OC) (h1 h2 h3 : HC) (t : TC) (g : GC) (P : List PE) (v : MC) (N n rn c0 c2 s2 : Nat), LR o h1 h3 t g P v N n rn c0 → c2 ≤ cells + 2 → s2 ≤ slots + 42 → GL p l e s m below meth c D b 1625 (lvk b B a k) [] ((ow q B o ++ (hw q (B 1) h1 ++ (hw q (B 2) h2 ++ (hw q (B 3) h3 ++ (tw q (B 4) t ++ (sw q (B 5) g)))))) ++ (pw q P ++ mw q a v)) c2 s2) : GL p l e s m below meth c D b 1348 (lvk b B a k) [] ((ow q B o ++ (hw q (B 1) h1 ++ (hw q (B 2) h2 ++ (hw q (B 3) h3 ++ (tw q (B 4) t ++ (sw q (B 5) g)))))) ++ (pw q P ++ mw q a v)) cells slots := by
  refine g_aloadn X.1 dL_law_1348 1 rfl rfl ?_
  refine g_scr X 1 dL_law_1349 dL_law_1350 dL_law_1351 (by decide) dL_law_1352 dL_law_1353 (by omega) ?_
  refine g_scr X 2 dL_law_1354 dL_law_1355 dL_law_1356 (by decide) dL_law_1357 dL_law_1358 (by omega) ?_
  refine g_scr X 3 dL_law_1359 dL_law_1360 dL_law_1361 (by decide) dL_law_1362 dL_law_1363 (by omega) ?_
  refine g_callLi X.1 (rd_V X.1 (k_putN l D q tt B o h1 h2 h3 t g (m_s v) N (xs (k + 1)) (xs (k + 2)) (xs (k + 3)) r.gd r.hr jno_) gL_law_X4_put rfl rfl rfl 3 ok_X4_put rfl 0 rfl rfl (rest := []) rfl rfl (Nat.le_of_ble_eq_true rfl) dL_law_1364 ⟨(Nat.le_of_ble_eq_true rfl), (Nat.le_of_ble_eq_true rfl)⟩ ⟨(show cells + _ ≤ 600000 by omega), (show slots + _ ≤ 7302250 by omega)⟩) (fun r1_ u1 h1_ => ?_)
  refine g_asc ?_
  refine g_aloadn X.1 dL_law_1367 2 rfl rfl ?_
  refine g_scr X 1 dL_law_1368 dL_law_1369 dL_law_1370 (by decide) dL_law_1371 dL_law_1372 (by omega) ?_
  refine g_scr X 2 dL_law_1373 dL_law_1374 dL_law_1375 (by decide) dL_law_1376 dL_law_1377 (by omega) ?_
  refine g_scr X 3 dL_law_1378 dL_law_1379 dL_law_1380 (by decide) dL_law_1381 dL_law_1382 (by omega) ?_
  refine g_callRi X.1 (rd_V X.1 (k_X5_put l D q tt a v (xs (k + 1)) (xs (k + 2)) (xs (k + 3)) r.sg) gL_law_X5_put rfl rfl rfl 3 ok_X5_put rfl 0 rfl rfl (rest := [.int r1_]) rfl rfl (Nat.le_of_ble_eq_true rfl) dL_law_1383 ⟨(Nat.le_of_ble_eq_true rfl), (Nat.le_of_ble_eq_true rfl)⟩ ⟨(show cells + 0 + _ ≤ 600000 by omega), (show slots + 0 + _ ≤ 7302250 by omega)⟩) (fun r2_ u2 h2_ => ?_)
  refine g_asc' ?_
  have pn_ := put_N (T := m_sortOf v) (x := (xs (k + 1))) (Z := m_sizeOf v) (M := m_numbers v) (y := (xs (k + 2))) (z := (xs (k + 3))) (fun h_ => sh_no r jno_ h_)
  have eu_ : u2 = m_numbers v := h2_.2.trans pn_.2
  subst eu_
  have e_ : r1_ = r2_ := h1_.trans (pn_.1.symm.trans h2_.1.symm)
  refine g_icmp_eq X.1 1625 dL_law_1386 rfl (fun _ => ?_) (fun h_ => absurd e_ h_)
  exact kk _ _ _ _ _ _ _ _ _ _ _ _ _ _ (r.house ⟨r.gd, r.hr⟩ ⟨rfl, rfl, rfl, rfl, rfl, rfl, rfl, rfl, rfl, rfl, rfl, rfl, rfl, rfl⟩) (by omega) (by omega)

set_option maxRecDepth 100000 in
set_option maxHeartbeats 4000000 in
theorem lz_putS {B : Nat → Nat → Nat} {a : Nat → Nat} {o : OC} {h1 h2 h3 : HC} {t : TC} {g : GC} {P : List PE} {v : MC} {N n rn c0 k : Nat} {j xa ya nn : Nat} {ff : Nat → Int64} {Qs : List PE} (X : Lx p s m meth c D q tt b L xs) (r : LR o h1 h3 t g P v N n rn c0) (hk : k + 5 ≤ L) (hc : cells + 10 ≤ 600000) (hs : slots + 60 ≤ 7302250) (jj_ : j < 4) (jx_ : xs (k + 1) = nI j) (js_ : (o_sheets o) j = some xa) (jp_ : P.Perm ((xa, ya, m_sortOf v j, nn, ff) :: Qs)) (jT_ : 0 ≤ m_sortOf v j ∧ m_sortOf v j ≤ 3) (jn_ : nn ≤ 40) (jZ_ : m_sizeOf v j = nI nn) (jf_ : ∀ k2, k2 < nn → ff k2 = (m_numbers v (40 * j + k2)).toInt64) (kk : ∀ (o : OC) (h1 h2 h3 : HC) (t : TC) (g : GC) (P : List PE) (v : MC) (N n rn c0 c2 s2 : Nat), LR o h1 h3 t g P v N n rn c0 → c2 ≤ cells + 2 → s2 ≤ slots + 42 → GL p l e s m below meth c D b 1625 (lvk b B a k) [] ((ow q B o ++ (hw q (B 1) h1 ++ (hw q (B 2) h2 ++ (hw q (B 3) h3 ++ (tw q (B 4) t ++ (sw q (B 5) g)))))) ++ (pw q P ++ mw q a v)) c2 s2) : GL p l e s m below meth c D b 1348 (lvk b B a k) [] ((ow q B o ++ (hw q (B 1) h1 ++ (hw q (B 2) h2 ++ (hw q (B 3) h3 ++ (tw q (B 4) t ++ (sw q (B 5) g)))))) ++ (pw q P ++ mw q a v)) cells slots := by
  refine g_prm _ (pr_out jp_ _ _ _ _ _ _ _) ?_
  refine g_aloadn X.1 dL_law_1348 1 rfl rfl ?_
  refine g_scr X 1 dL_law_1349 dL_law_1350 dL_law_1351 (by decide) dL_law_1352 dL_law_1353 (by omega) ?_
  refine g_topci (nI j) jx_ ?_
  refine g_scr X 2 dL_law_1354 dL_law_1355 dL_law_1356 (by decide) dL_law_1357 dL_law_1358 (by omega) ?_
  refine g_scr X 3 dL_law_1359 dL_law_1360 dL_law_1361 (by decide) dL_law_1362 dL_law_1363 (by omega) ?_
  refine g_callLi X.1 (rd_V X.1 (k_putS l D q tt B o h1 h2 h3 t g (m_s v) N xa ya (m_sortOf v j) nn ff j (xs (k + 2)) (xs (k + 3)) r.gd r.hr jn_ jj_ js_) gL_law_X4_put rfl rfl rfl 3 ok_X4_put rfl 0 rfl rfl (rest := []) rfl rfl (Nat.le_of_ble_eq_true rfl) dL_law_1364 ⟨(Nat.le_of_ble_eq_true rfl), (Nat.le_of_ble_eq_true rfl)⟩ ⟨(show cells + _ ≤ 600000 by omega), (show slots + _ ≤ 7302250 by omega)⟩) (fun r1_ u1 h1_ => ?_)
  refine g_asc ?_
  refine g_aloadn X.1 dL_law_1367 2 rfl rfl ?_
  refine g_scr X 1 dL_law_1368 dL_law_1369 dL_law_1370 (by decide) dL_law_1371 dL_law_1372 (by omega) ?_
  refine g_scr X 2 dL_law_1373 dL_law_1374 dL_law_1375 (by decide) dL_law_1376 dL_law_1377 (by omega) ?_
  refine g_scr X 3 dL_law_1378 dL_law_1379 dL_law_1380 (by decide) dL_law_1381 dL_law_1382 (by omega) ?_
  refine g_callRi X.1 (rd_V X.1 (k_X5_put l D q tt a v (xs (k + 1)) (xs (k + 2)) (xs (k + 3)) r.sg) gL_law_X5_put rfl rfl rfl 3 ok_X5_put rfl 0 rfl rfl (rest := [.int r1_]) rfl rfl (Nat.le_of_ble_eq_true rfl) dL_law_1383 ⟨(Nat.le_of_ble_eq_true rfl), (Nat.le_of_ble_eq_true rfl)⟩ ⟨(show cells + 0 + _ ≤ 600000 by omega), (show slots + 0 + _ ≤ 7302250 by omega)⟩) (fun r2_ u2 h2_ => ?_)
  refine g_asc' ?_
  have ps_ := put_S (T := m_sortOf v) (Z := m_sizeOf v) (M := m_numbers v) (x := (xs (k + 1))) (y := (xs (k + 2))) (z := (xs (k + 3))) jj_ jx_ jT_ jZ_
  have pm_ := put_nm (M' := u2) jn_ jf_ h1_.2 (h2_.2.trans ps_.2)
  have e_ : r1_ = r2_ := h1_.1.trans (ps_.1.symm.trans h2_.1.symm)
  refine g_icmp_eq X.1 1625 dL_law_1386 rfl (fun _ => ?_) (fun h_ => absurd e_ h_)
  refine g_prm _ (pr_out (P := (xa, ya, m_sortOf v j, nn, u1) :: Qs) (List.Perm.refl _) _ _ _ _ _ _ _).symm ?_
  exact kk _ _ _ _ _ _ _ _ _ _ _ _ _ _ ⟨r.gd, r.hr, r.kp, r.kh, r.tl, r.tm, r.n2, r.tu, r.tb, r.ro, r.rc, r.rm, r.r1, r.gb, r.gn, r.mn, r.c3, r.sg, (fun i hi => put_sh (M := m_numbers v) (M' := u2) r.sh r.sd jj_ js_ jp_ jT_ jn_ jZ_ pm_.1 pm_.2 i hi), r.sd, r.sp, (fun i hi => sv_rep jp_ (r.sv i hi))⟩ (by omega) (by omega)

set_option maxRecDepth 100000 in
set_option maxHeartbeats 4000000 in
theorem lz_put {B : Nat → Nat → Nat} {a : Nat → Nat} {o : OC} {h1 h2 h3 : HC} {t : TC} {g : GC} {P : List PE} {v : MC} {N n rn c0 k : Nat} (X : Lx p s m meth c D q tt b L xs) (r : LR o h1 h3 t g P v N n rn c0) (hk : k + 5 ≤ L) (hc : cells + 10 ≤ 600000) (hs : slots + 60 ≤ 7302250) (kk : ∀ (o : OC) (h1 h2 h3 : HC) (t : TC) (g : GC) (P : List PE) (v : MC) (N n rn c0 c2 s2 : Nat), LR o h1 h3 t g P v N n rn c0 → c2 ≤ cells + 2 → s2 ≤ slots + 42 → GL p l e s m below meth c D b 1625 (lvk b B a k) [] ((ow q B o ++ (hw q (B 1) h1 ++ (hw q (B 2) h2 ++ (hw q (B 3) h3 ++ (tw q (B 4) t ++ (sw q (B 5) g)))))) ++ (pw q P ++ mw q a v)) c2 s2) : GL p l e s m below meth c D b 1348 (lvk b B a k) [] ((ow q B o ++ (hw q (B 1) h1 ++ (hw q (B 2) h2 ++ (hw q (B 3) h3 ++ (tw q (B 4) t ++ (sw q (B 5) g)))))) ++ (pw q P ++ mw q a v)) cells slots := by
  rcases sh_cs r (xs (k + 1)) with h_ | ⟨j, xa, ya, nn, ff, jj_, jx_, js_, jm_, jT_, jn_, jZ_, jf_⟩
  · exact lz_putN X r hk hc hs h_ kk
  · obtain ⟨Qs, jp_⟩ := ex_pm jm_
    exact lz_putS X r hk hc hs jj_ jx_ js_ jp_ jT_ jn_ jZ_ jf_ kk
end LAW
