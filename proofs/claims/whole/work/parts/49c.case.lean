section LAW
variable {p : Program} {l : Launch} {e : Env} {s : State} {m : MethodId} {below : List Frame} {meth : Method} {c : Code} {D : va_G} {q : Nat → ClassId} {tt : Nat → Nat} {b L : Nat} {xs : Nat → Int32}
variable {pc : Nat} {lv : List (Nat × Value)} {st : List Value} {ws : va_W} {cells slots : Nat}
set_option maxRecDepth 100000 in
set_option maxHeartbeats 4000000 in
theorem lz_mindsN {B : Nat → Nat → Nat} {a : Nat → Nat} {o : OC} {h1 h2 h3 : HC} {t : TC} {g : GC} {P : List PE} {v : MC} {N n rn c0 k : Nat} (X : Lx p s m meth c D q tt b L xs) (r : LR o h1 h3 t g P v N n rn c0) (hk : k + 5 ≤ L) (hc : cells + 10 ≤ 600000) (hs : slots + 60 ≤ 7302250) (jno_ : ∀ j, j < 4 → xs (k + 1) = nI j → (o_sheets o) j = none) (kk : ∀ (o : OC) (h1 h2 h3 : HC) (t : TC) (g : GC) (P : List PE) (v : MC) (N n rn c0 c2 s2 : Nat), LR o h1 h3 t g P v N n rn c0 → c2 ≤ cells + 2 → s2 ≤ slots + 42 → GL p l e s m below meth c D b 1625 (lvk b B a k) [] ((ow q B o ++ (hw q (B 1) h1 ++ (hw q (B 2) h2 ++ (hw q (B 3) h3 ++ (tw q (B 4) t ++ (sw q (B 5) g)))))) ++ (pw q P ++ mw q a v)) c2 s2) : GL p l e s m below meth c D b 1252 (lvk b B a k) [] ((ow q B o ++ (hw q (B 1) h1 ++ (hw q (B 2) h2 ++ (hw q (B 3) h3 ++ (tw q (B 4) t ++ (sw q (B 5) g)))))) ++ (pw q P ++ mw q a v)) cells slots := by
  refine g_aloadn X.1 dL_law_1252 1 rfl rfl ?_
  refine g_scr X 1 dL_law_1253 dL_law_1254 dL_law_1255 (by decide) dL_law_1256 dL_law_1257 (by omega) ?_
  refine g_scr X 2 dL_law_1258 dL_law_1259 dL_law_1260 (by decide) dL_law_1261 dL_law_1262 (by omega) ?_
  refine g_scr X 3 dL_law_1263 dL_law_1264 dL_law_1265 (by decide) dL_law_1266 dL_law_1267 (by omega) ?_
  refine g_scr X 4 dL_law_1268 dL_law_1269 dL_law_1270 (by decide) dL_law_1271 dL_law_1272 (by omega) ?_
  refine g_callLi X.1 (rd_V X.1 (k_mindsN l D q tt B o h1 h2 h3 t g (m_s v) N (xs (k + 1)) (xs (k + 2)) (xs (k + 3)) (xs (k + 4)) r.gd r.hr jno_) gL_law_X4_minds rfl rfl rfl 4 ok_X4_minds rfl 0 rfl rfl (rest := []) rfl rfl (Nat.le_of_ble_eq_true rfl) dL_law_1273 ⟨(Nat.le_of_ble_eq_true rfl), (Nat.le_of_ble_eq_true rfl)⟩ ⟨(show cells + _ ≤ 600000 by omega), (show slots + _ ≤ 7302250 by omega)⟩) (fun r1_ u1 h1_ => ?_)
  refine g_asc ?_
  refine g_aloadn X.1 dL_law_1276 2 rfl rfl ?_
  refine g_scr X 1 dL_law_1277 dL_law_1278 dL_law_1279 (by decide) dL_law_1280 dL_law_1281 (by omega) ?_
  refine g_scr X 2 dL_law_1282 dL_law_1283 dL_law_1284 (by decide) dL_law_1285 dL_law_1286 (by omega) ?_
  refine g_scr X 3 dL_law_1287 dL_law_1288 dL_law_1289 (by decide) dL_law_1290 dL_law_1291 (by omega) ?_
  refine g_scr X 4 dL_law_1292 dL_law_1293 dL_law_1294 (by decide) dL_law_1295 dL_law_1296 (by omega) ?_
  refine g_callRi X.1 (rd_V X.1 (k_X5_minds l D q tt a v N (xs (k + 1)) (xs (k + 2)) (xs (k + 3)) (xs (k + 4)) r.gd r.sg) gL_law_X5_minds rfl rfl rfl 4 ok_X5_minds rfl 0 rfl rfl (rest := [.int r1_]) rfl rfl (Nat.le_of_ble_eq_true rfl) dL_law_1297 ⟨(Nat.le_of_ble_eq_true rfl), (Nat.le_of_ble_eq_true rfl)⟩ ⟨(show cells + 0 + _ ≤ 600000 by omega), (show slots + 0 + _ ≤ 7302250 by omega)⟩) (fun r2_ u2 h2_ => ?_)
  refine g_asc' ?_
  have pn_ := minds_N (S := m_s v) (T := m_sortOf v) (x := (xs (k + 1))) (Z := m_sizeOf v) (M := m_numbers v) (y := (xs (k + 2))) (z := (xs (k + 3))) (w := (xs (k + 4))) (fun h_ => sh_no r jno_ h_)
  have eu_ : u2 = m_s v := h2_.2.trans pn_.2
  subst eu_
  have e_ : r1_ = r2_ := h1_.trans (pn_.1.symm.trans h2_.1.symm)
  refine g_icmp_eq X.1 1625 dL_law_1300 rfl (fun _ => ?_) (fun h_ => absurd e_ h_)
  exact kk _ _ _ _ _ _ _ _ _ _ _ _ _ _ (r.house ⟨r.gd, r.hr⟩ ⟨rfl, rfl, rfl, rfl, rfl, rfl, rfl, rfl, rfl, rfl, rfl, rfl, rfl, rfl⟩) (by omega) (by omega)

set_option maxRecDepth 100000 in
set_option maxHeartbeats 4000000 in
theorem lz_mindsS {B : Nat → Nat → Nat} {a : Nat → Nat} {o : OC} {h1 h2 h3 : HC} {t : TC} {g : GC} {P : List PE} {v : MC} {N n rn c0 k : Nat} {j xa ya nn : Nat} {ff : Nat → Int64} {Qs : List PE} (X : Lx p s m meth c D q tt b L xs) (r : LR o h1 h3 t g P v N n rn c0) (hk : k + 5 ≤ L) (hc : cells + 10 ≤ 600000) (hs : slots + 60 ≤ 7302250) (jj_ : j < 4) (jx_ : xs (k + 1) = nI j) (js_ : (o_sheets o) j = some xa) (jp_ : P.Perm ((xa, ya, m_sortOf v j, nn, ff) :: Qs)) (jT_ : 0 ≤ m_sortOf v j ∧ m_sortOf v j ≤ 3) (jn_ : nn ≤ 40) (jZ_ : m_sizeOf v j = nI nn) (jf_ : ∀ k2, k2 < nn → ff k2 = (m_numbers v (40 * j + k2)).toInt64) (kk : ∀ (o : OC) (h1 h2 h3 : HC) (t : TC) (g : GC) (P : List PE) (v : MC) (N n rn c0 c2 s2 : Nat), LR o h1 h3 t g P v N n rn c0 → c2 ≤ cells + 2 → s2 ≤ slots + 42 → GL p l e s m below meth c D b 1625 (lvk b B a k) [] ((ow q B o ++ (hw q (B 1) h1 ++ (hw q (B 2) h2 ++ (hw q (B 3) h3 ++ (tw q (B 4) t ++ (sw q (B 5) g)))))) ++ (pw q P ++ mw q a v)) c2 s2) : GL p l e s m below meth c D b 1252 (lvk b B a k) [] ((ow q B o ++ (hw q (B 1) h1 ++ (hw q (B 2) h2 ++ (hw q (B 3) h3 ++ (tw q (B 4) t ++ (sw q (B 5) g)))))) ++ (pw q P ++ mw q a v)) cells slots := by
  refine g_prm _ (pr_out jp_ _ _ _ _ _ _ _) ?_
  refine g_aloadn X.1 dL_law_1252 1 rfl rfl ?_
  refine g_scr X 1 dL_law_1253 dL_law_1254 dL_law_1255 (by decide) dL_law_1256 dL_law_1257 (by omega) ?_
  refine g_topci (nI j) jx_ ?_
  refine g_scr X 2 dL_law_1258 dL_law_1259 dL_law_1260 (by decide) dL_law_1261 dL_law_1262 (by omega) ?_
  refine g_scr X 3 dL_law_1263 dL_law_1264 dL_law_1265 (by decide) dL_law_1266 dL_law_1267 (by omega) ?_
  refine g_scr X 4 dL_law_1268 dL_law_1269 dL_law_1270 (by decide) dL_law_1271 dL_law_1272 (by omega) ?_
  refine g_callLi X.1 (rd_V X.1 (k_mindsS l D q tt B o h1 h2 h3 t g (m_s v) N xa ya (m_sortOf v j) nn ff (fun k2 => m_numbers v (40 * j + k2)) j (xs (k + 2)) (xs (k + 3)) (xs (k + 4)) r.gd r.hr jn_ jj_ js_ jf_) gL_law_X4_minds rfl rfl rfl 4 ok_X4_minds rfl 0 rfl rfl (rest := []) rfl rfl (Nat.le_of_ble_eq_true rfl) dL_law_1273 ⟨(Nat.le_of_ble_eq_true rfl), (Nat.le_of_ble_eq_true rfl)⟩ ⟨(show cells + _ ≤ 600000 by omega), (show slots + _ ≤ 7302250 by omega)⟩) (fun r1_ u1 h1_ => ?_)
  refine g_asc ?_
  refine g_aloadn X.1 dL_law_1276 2 rfl rfl ?_
  refine g_scr X 1 dL_law_1277 dL_law_1278 dL_law_1279 (by decide) dL_law_1280 dL_law_1281 (by omega) ?_
  refine g_scr X 2 dL_law_1282 dL_law_1283 dL_law_1284 (by decide) dL_law_1285 dL_law_1286 (by omega) ?_
  refine g_scr X 3 dL_law_1287 dL_law_1288 dL_law_1289 (by decide) dL_law_1290 dL_law_1291 (by omega) ?_
  refine g_scr X 4 dL_law_1292 dL_law_1293 dL_law_1294 (by decide) dL_law_1295 dL_law_1296 (by omega) ?_
  refine g_callRi X.1 (rd_V X.1 (k_X5_minds l D q tt a v N (xs (k + 1)) (xs (k + 2)) (xs (k + 3)) (xs (k + 4)) r.gd r.sg) gL_law_X5_minds rfl rfl rfl 4 ok_X5_minds rfl 0 rfl rfl (rest := [.int r1_]) rfl rfl (Nat.le_of_ble_eq_true rfl) dL_law_1297 ⟨(Nat.le_of_ble_eq_true rfl), (Nat.le_of_ble_eq_true rfl)⟩ ⟨(show cells + 0 + _ ≤ 600000 by omega), (show slots + 0 + _ ≤ 7302250 by omega)⟩) (fun r2_ u2 h2_ => ?_)
  refine g_asc' ?_
  have ps_ := minds_S (S := m_s v) (T := m_sortOf v) (Z := m_sizeOf v) (M := m_numbers v) (x := (xs (k + 1))) (y := (xs (k + 2))) (z := (xs (k + 3))) (w := (xs (k + 4))) jj_ jx_ jT_ jn_ jZ_
  have eu_ := h2_.2.trans ps_.2
  have e_ : r1_ = r2_ := h1_.1.trans (ps_.1.symm.trans h2_.1.symm)
  refine g_icmp_eq X.1 1625 dL_law_1300 rfl (fun _ => ?_) (fun h_ => absurd e_ h_)
  refine g_prm _ (pr_out (P := (xa, ya, m_sortOf v j, nn, ff) :: Qs) (List.Perm.refl _) _ _ _ _ _ _ _).symm ?_
  exact kk _ _ _ _ _ _ _ _ _ _ _ _ _ _ ((r.mono (fun x_ hx_ => jp_.mem_iff.mp hx_)).house (N2 := N) ⟨(show Gd u2 N by rw [eu_]; exact h1_.2.1), (show HR u2 N u1 by rw [eu_]; exact h1_.2.2)⟩ ⟨rfl, rfl, rfl, rfl, rfl, rfl, rfl, rfl, rfl, rfl, rfl, rfl, rfl, rfl⟩) (by omega) (by omega)

set_option maxRecDepth 100000 in
set_option maxHeartbeats 4000000 in
theorem lz_minds {B : Nat → Nat → Nat} {a : Nat → Nat} {o : OC} {h1 h2 h3 : HC} {t : TC} {g : GC} {P : List PE} {v : MC} {N n rn c0 k : Nat} (X : Lx p s m meth c D q tt b L xs) (r : LR o h1 h3 t g P v N n rn c0) (hk : k + 5 ≤ L) (hc : cells + 10 ≤ 600000) (hs : slots + 60 ≤ 7302250) (kk : ∀ (o : OC) (h1 h2 h3 : HC) (t : TC) (g : GC) (P : List PE) (v : MC) (N n rn c0 c2 s2 : Nat), LR o h1 h3 t g P v N n rn c0 → c2 ≤ cells + 2 → s2 ≤ slots + 42 → GL p l e s m below meth c D b 1625 (lvk b B a k) [] ((ow q B o ++ (hw q (B 1) h1 ++ (hw q (B 2) h2 ++ (hw q (B 3) h3 ++ (tw q (B 4) t ++ (sw q (B 5) g)))))) ++ (pw q P ++ mw q a v)) c2 s2) : GL p l e s m below meth c D b 1252 (lvk b B a k) [] ((ow q B o ++ (hw q (B 1) h1 ++ (hw q (B 2) h2 ++ (hw q (B 3) h3 ++ (tw q (B 4) t ++ (sw q (B 5) g)))))) ++ (pw q P ++ mw q a v)) cells slots := by
  rcases sh_cs r (xs (k + 1)) with h_ | ⟨j, xa, ya, nn, ff, jj_, jx_, js_, jm_, jT_, jn_, jZ_, jf_⟩
  · exact lz_mindsN X r hk hc hs h_ kk
  · obtain ⟨Qs, jp_⟩ := ex_pm jm_
    exact lz_mindsS X r hk hc hs jj_ jx_ js_ jp_ jT_ jn_ jZ_ jf_ kk
end LAW
