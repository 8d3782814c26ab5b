section LAW
variable {p : Program} {l : Launch} {e : Env} {s : State} {m : MethodId} {below : List Frame} {meth : Method} {c : Code} {D : va_G} {q : Nat → ClassId} {tt : Nat → Nat} {b L : Nat} {xs : Nat → Int32}
variable {pc : Nat} {lv : List (Nat × Value)} {st : List Value} {ws : va_W} {cells slots : Nat}
set_option maxRecDepth 100000 in
set_option maxHeartbeats 4000000 in
theorem lz_shelfN {B : Nat → Nat → Nat} {a : Nat → Nat} {o : OC} {h1 h2 h3 : HC} {t : TC} {g : GC} {P : List PE} {v : MC} {N n rn c0 k : Nat} (X : Lx p s m meth c D q tt b L xs) (r : LR o h1 h3 t g P v N n rn c0) (hk : k + 5 ≤ L) (hc : cells + 10 ≤ 600000) (hs : slots + 60 ≤ 7302250) (jno_ : xs (k + 2) = 1 → ∀ j, j < 4 → xs (k + 3) = nI j → (o_sheets o) j = none) (kk : ∀ (o : OC) (h1 h2 h3 : HC) (t : TC) (g : GC) (P : List PE) (v : MC) (N n rn c0 c2 s2 : Nat), LR o h1 h3 t g P v N n rn c0 → c2 ≤ cells + 2 → s2 ≤ slots + 42 → GL p l e s m below meth c D b 1625 (lvk b B a k) [] ((ow q B o ++ (hw q (B 1) h1 ++ (hw q (B 2) h2 ++ (hw q (B 3) h3 ++ (tw q (B 4) t ++ (sw q (B 5) g)))))) ++ (pw q P ++ mw q a v)) c2 s2) : GL p l e s m below meth c D b 1434 (lvk b B a k) [] ((ow q B o ++ (hw q (B 1) h1 ++ (hw q (B 2) h2 ++ (hw q (B 3) h3 ++ (tw q (B 4) t ++ (sw q (B 5) g)))))) ++ (pw q P ++ mw q a v)) cells slots := by
  refine g_aloadn X.1 dL_law_1434 1 rfl rfl ?_
  refine g_scr X 1 dL_law_1435 dL_law_1436 dL_law_1437 (by decide) dL_law_1438 dL_law_1439 (by omega) ?_
  refine g_scr X 2 dL_law_1440 dL_law_1441 dL_law_1442 (by decide) dL_law_1443 dL_law_1444 (by omega) ?_
  refine g_scr X 3 dL_law_1445 dL_law_1446 dL_law_1447 (by decide) dL_law_1448 dL_law_1449 (by omega) ?_
  refine g_callLi X.1 (rd_V X.1 (k_shelfN l D q tt B o h1 h2 h3 t g (m_s v) N (xs (k + 1)) (xs (k + 2)) (xs (k + 3)) r.gd r.hr jno_) gL_law_X4_shelf rfl rfl rfl 3 ok_X4_shelf rfl 0 rfl rfl (rest := []) rfl rfl (Nat.le_of_ble_eq_true rfl) dL_law_1450 ⟨(Nat.le_of_ble_eq_true rfl), (Nat.le_of_ble_eq_true rfl)⟩ ⟨(show cells + _ ≤ 600000 by omega), (show slots + _ ≤ 7302250 by omega)⟩) (fun r1_ u1 h1_ => ?_)
  refine g_asc ?_
  refine g_aloadn X.1 dL_law_1453 2 rfl rfl ?_
  refine g_scr X 1 dL_law_1454 dL_law_1455 dL_law_1456 (by decide) dL_law_1457 dL_law_1458 (by omega) ?_
  refine g_scr X 2 dL_law_1459 dL_law_1460 dL_law_1461 (by decide) dL_law_1462 dL_law_1463 (by omega) ?_
  refine g_scr X 3 dL_law_1464 dL_law_1465 dL_law_1466 (by decide) dL_law_1467 dL_law_1468 (by omega) ?_
  refine g_callRi X.1 (rd_V X.1 (k_X5_shelf l D q tt a v N (xs (k + 1)) (xs (k + 2)) (xs (k + 3)) r.gd) gL_law_X5_shelf rfl rfl rfl 3 ok_X5_shelf rfl 0 rfl rfl (rest := [.int r1_]) rfl rfl (Nat.le_of_ble_eq_true rfl) dL_law_1469 ⟨(Nat.le_of_ble_eq_true rfl), (Nat.le_of_ble_eq_true rfl)⟩ ⟨(show cells + 0 + _ ≤ 600000 by omega), (show slots + 0 + _ ≤ 7302250 by omega)⟩) (fun r2_ u2 h2_ => ?_)
  refine g_asc' ?_
  have e_ : r1_ = r2_ := h1_.1.trans h2_.1.symm
  refine g_icmp_eq X.1 1625 dL_law_1472 rfl (fun _ => ?_) (fun h_ => absurd e_ h_)
  exact kk _ _ _ _ _ _ _ _ _ _ _ _ _ _ ⟨r.gd, r.hr, r.kp, r.kh, r.tl, r.tm, r.n2, r.tu, r.tb, r.ro, r.rc, r.rm, r.r1, r.gb, r.gn, r.mn, r.c3, r.sg, r.sh, r.sd, (show ∀ i_, i_ < 4 → u1.1 i_ = ppS u2.1 u2.2.1 i_ by rw [h1_.2.1, h2_.2.1, h2_.2.2.1]; exact shelf_sp r.sp), (show ∀ i_, i_ < 4 → SvJ P (u1.2 i_) (u2.1 i_) (u2.2.1 i_) (u2.2.2 i_) by rw [h1_.2.2, h2_.2.1, h2_.2.2.1, h2_.2.2.2]; exact shelf_sv r.sv (fun hg_ => shv_N (fun hy_ => sh_no r (jno_ hy_) (hg_.2.2.2 hy_))))⟩ (by omega) (by omega)

set_option maxRecDepth 100000 in
set_option maxHeartbeats 4000000 in
theorem lz_shelfS {B : Nat → Nat → Nat} {a : Nat → Nat} {o : OC} {h1 h2 h3 : HC} {t : TC} {g : GC} {P : List PE} {v : MC} {N n rn c0 k : Nat} {j xa ya nn : Nat} {ff : Nat → Int64} {Qs : List PE} (X : Lx p s m meth c D q tt b L xs) (r : LR o h1 h3 t g P v N n rn c0) (hk : k + 5 ≤ L) (hc : cells + 10 ≤ 600000) (hs : slots + 60 ≤ 7302250) (jj_ : j < 4) (jx_ : xs (k + 3) = nI j) (js_ : (o_sheets o) j = some xa) (jp_ : P.Perm ((xa, ya, m_sortOf v j, nn, ff) :: Qs)) (jT_ : 0 ≤ m_sortOf v j ∧ m_sortOf v j ≤ 3) (jn_ : nn ≤ 40) (jZ_ : m_sizeOf v j = nI nn) (jf_ : ∀ k2, k2 < nn → ff k2 = (m_numbers v (40 * j + k2)).toInt64) (jy_ : xs (k + 2) = 1) (kk : ∀ (o : OC) (h1 h2 h3 : HC) (t : TC) (g : GC) (P : List PE) (v : MC) (N n rn c0 c2 s2 : Nat), LR o h1 h3 t g P v N n rn c0 → c2 ≤ cells + 2 → s2 ≤ slots + 42 → GL p l e s m below meth c D b 1625 (lvk b B a k) [] ((ow q B o ++ (hw q (B 1) h1 ++ (hw q (B 2) h2 ++ (hw q (B 3) h3 ++ (tw q (B 4) t ++ (sw q (B 5) g)))))) ++ (pw q P ++ mw q a v)) c2 s2) : GL p l e s m below meth c D b 1434 (lvk b B a k) [] ((ow q B o ++ (hw q (B 1) h1 ++ (hw q (B 2) h2 ++ (hw q (B 3) h3 ++ (tw q (B 4) t ++ (sw q (B 5) g)))))) ++ (pw q P ++ mw q a v)) cells slots := by
  refine g_prm _ (pr_out jp_ _ _ _ _ _ _ _) ?_
  refine g_aloadn X.1 dL_law_1434 1 rfl rfl ?_
  refine g_scr X 1 dL_law_1435 dL_law_1436 dL_law_1437 (by decide) dL_law_1438 dL_law_1439 (by omega) ?_
  refine g_scr X 2 dL_law_1440 dL_law_1441 dL_law_1442 (by decide) dL_law_1443 dL_law_1444 (by omega) ?_
  refine g_scr X 3 dL_law_1445 dL_law_1446 dL_law_1447 (by decide) dL_law_1448 dL_law_1449 (by omega) ?_
  refine g_topci (nI j) jx_ ?_
  refine g_callLi X.1 (rd_V X.1 (k_shelfS l D q tt B o h1 h2 h3 t g (m_s v) N xa ya (m_sortOf v j) nn ff (xs (k + 1)) (xs (k + 2)) j r.gd r.hr jy_ jj_ js_) gL_law_X4_shelf rfl rfl rfl 3 ok_X4_shelf rfl 0 rfl rfl (rest := []) rfl rfl (Nat.le_of_ble_eq_true rfl) dL_law_1450 ⟨(Nat.le_of_ble_eq_true rfl), (Nat.le_of_ble_eq_true rfl)⟩ ⟨(show cells + _ ≤ 600000 by omega), (show slots + _ ≤ 7302250 by omega)⟩) (fun r1_ u1 h1_ => ?_)
  refine g_asc ?_
  refine g_aloadn X.1 dL_law_1453 2 rfl rfl ?_
  refine g_scr X 1 dL_law_1454 dL_law_1455 dL_law_1456 (by decide) dL_law_1457 dL_law_1458 (by omega) ?_
  refine g_scr X 2 dL_law_1459 dL_law_1460 dL_law_1461 (by decide) dL_law_1462 dL_law_1463 (by omega) ?_
  refine g_scr X 3 dL_law_1464 dL_law_1465 dL_law_1466 (by decide) dL_law_1467 dL_law_1468 (by omega) ?_
  refine g_callRi X.1 (rd_V X.1 (k_X5_shelf l D q tt a v N (xs (k + 1)) (xs (k + 2)) (xs (k + 3)) r.gd) gL_law_X5_shelf rfl rfl rfl 3 ok_X5_shelf rfl 0 rfl rfl (rest := [.int r1_]) rfl rfl (Nat.le_of_ble_eq_true rfl) dL_law_1469 ⟨(Nat.le_of_ble_eq_true rfl), (Nat.le_of_ble_eq_true rfl)⟩ ⟨(show cells + 0 + _ ≤ 600000 by omega), (show slots + 0 + _ ≤ 7302250 by omega)⟩) (fun r2_ u2 h2_ => ?_)
  refine g_asc' ?_
  have e_ : r1_ = r2_ := h1_.1.trans ((by rw [jx_] : R_shelf (m_s v) (xs (k + 1)) (xs (k + 2)) (nI j) = R_shelf (m_s v) (xs (k + 1)) (xs (k + 2)) (xs (k + 3))).trans h2_.1.symm)
  refine g_icmp_eq X.1 1625 dL_law_1472 rfl (fun _ => ?_) (fun h_ => absurd e_ h_)
  refine g_prm _ (pr_out (P := (xa, ya, m_sortOf v j, nn, ff) :: Qs) (List.Perm.refl _) _ _ _ _ _ _ _).symm ?_
  exact kk _ _ _ _ _ _ _ _ _ _ _ _ _ _ ⟨r.gd, r.hr, r.kp, r.kh, r.tl, r.tm, r.n2, r.tu, r.tb, r.ro, r.rc, r.rm, r.r1, r.gb, r.gn, r.mn, r.c3, r.sg, (r.mono (fun x_ hx_ => jp_.mem_iff.mp hx_)).sh, r.sd, (show ∀ i_, i_ < 4 → u1.1 i_ = ppS u2.1 u2.2.1 i_ by rw [h1_.2.1, ← jx_, h2_.2.1, h2_.2.2.1]; exact shelf_sp r.sp), (show ∀ i_, i_ < 4 → SvJ ((xa, ya, m_sortOf v j, nn, ff) :: Qs) (u1.2 i_) (u2.1 i_) (u2.2.1 i_) (u2.2.2 i_) by rw [h1_.2.2, ← jx_, h2_.2.1, h2_.2.2.1, h2_.2.2.2]; exact shelf_sv (r.mono (fun x_ hx_ => jp_.mem_iff.mp hx_)).sv (fun hg_ => shv_S jy_ jj_ jx_ jT_.1 (List.mem_cons.mpr (Or.inl rfl)) jn_ jZ_))⟩ (by omega) (by omega)

set_option maxRecDepth 100000 in
set_option maxHeartbeats 4000000 in
theorem lz_shelf {B : Nat → Nat → Nat} {a : Nat → Nat} {o : OC} {h1 h2 h3 : HC} {t : TC} {g : GC} {P : List PE} {v : MC} {N n rn c0 k : Nat} (X : Lx p s m meth c D q tt b L xs) (r : LR o h1 h3 t g P v N n rn c0) (hk : k + 5 ≤ L) (hc : cells + 10 ≤ 600000) (hs : slots + 60 ≤ 7302250) (kk : ∀ (o : OC) (h1 h2 h3 : HC) (t : TC) (g : GC) (P : List PE) (v : MC) (N n rn c0 c2 s2 : Nat), LR o h1 h3 t g P v N n rn c0 → c2 ≤ cells + 2 → s2 ≤ slots + 42 → GL p l e s m below meth c D b 1625 (lvk b B a k) [] ((ow q B o ++ (hw q (B 1) h1 ++ (hw q (B 2) h2 ++ (hw q (B 3) h3 ++ (tw q (B 4) t ++ (sw q (B 5) g)))))) ++ (pw q P ++ mw q a v)) c2 s2) : GL p l e s m below meth c D b 1434 (lvk b B a k) [] ((ow q B o ++ (hw q (B 1) h1 ++ (hw q (B 2) h2 ++ (hw q (B 3) h3 ++ (tw q (B 4) t ++ (sw q (B 5) g)))))) ++ (pw q P ++ mw q a v)) cells slots := by
  by_cases jy_ : xs (k + 2) = 1
  · rcases sh_cs r (xs (k + 3)) with h_ | ⟨j, xa, ya, nn, ff, jj_, jx_, js_, jm_, jT_, jn_, jZ_, jf_⟩
    · exact lz_shelfN X r hk hc hs (fun _ => h_) kk
    · obtain ⟨Qs, jp_⟩ := ex_pm jm_
      exact lz_shelfS X r hk hc hs jj_ jx_ js_ jp_ jT_ jn_ jZ_ jf_ jy_ kk
  · exact lz_shelfN X r hk hc hs (fun z_ => absurd z_ jy_) kk
end LAW
