section LAW
variable {p : Program} {l : Launch} {e : Env} {s : State} {m : MethodId} {below : List Frame} {meth : Method} {c : Code} {D : va_G} {q : Nat → ClassId} {tt : Nat → Nat} {b L : Nat} {xs : Nat → Int32}
variable {pc : Nat} {lv : List (Nat × Value)} {st : List Value} {ws : va_W} {cells slots : Nat}
set_option maxRecDepth 100000 in
set_option maxHeartbeats 4000000 in
theorem lz_sheet {B : Nat → Nat → Nat} {a : Nat → Nat} {o : OC} {h1 h2 h3 : HC} {t : TC} {g : GC} {P : List PE} {v : MC} {N n rn c0 k : Nat} (X : Lx p s m meth c D q tt b L xs) (r : LR o h1 h3 t g P v N n rn c0) (hk : k + 5 ≤ L) (hc : cells + 10 ≤ 600000) (hs : slots + 60 ≤ 7302250) (kk : ∀ (o : OC) (h1 h2 h3 : HC) (t : TC) (g : GC) (P : List PE) (v : MC) (N n rn c0 c2 s2 : Nat), LR o h1 h3 t g P v N n rn c0 → c2 ≤ cells + 2 → s2 ≤ slots + 42 → GL p l e s m below meth c D b 1625 (lvk b B a k) [] ((ow q B o ++ (hw q (B 1) h1 ++ (hw q (B 2) h2 ++ (hw q (B 3) h3 ++ (tw q (B 4) t ++ (sw q (B 5) g)))))) ++ (pw q P ++ mw q a v)) c2 s2) : GL p l e s m below meth c D b 1305 (lvk b B a k) [] ((ow q B o ++ (hw q (B 1) h1 ++ (hw q (B 2) h2 ++ (hw q (B 3) h3 ++ (tw q (B 4) t ++ (sw q (B 5) g)))))) ++ (pw q P ++ mw q a v)) cells slots := by
  refine g_aloadn X.1 dL_law_1305 1 rfl rfl ?_
  refine g_scr X 1 dL_law_1306 dL_law_1307 dL_law_1308 (by decide) dL_law_1309 dL_law_1310 (by omega) ?_
  refine g_scr X 2 dL_law_1311 dL_law_1312 dL_law_1313 (by decide) dL_law_1314 dL_law_1315 (by omega) ?_
  refine g_scr X 3 dL_law_1316 dL_law_1317 dL_law_1318 (by decide) dL_law_1319 dL_law_1320 (by omega) ?_
  refine g_callLi X.1 (rd_V X.1 (k_X4_sheet l D q tt B o h1 h2 h3 t g (m_s v) N (xs (k + 1)) (xs (k + 2)) (xs (k + 3)) r.gd r.hr) gL_law_X4_sheet rfl rfl rfl 3 ok_X4_sheet rfl 0 rfl rfl (rest := []) rfl rfl (Nat.le_of_ble_eq_true rfl) dL_law_1321 ⟨(Nat.le_of_ble_eq_true rfl), (Nat.le_of_ble_eq_true rfl)⟩ ⟨(show cells + _ ≤ 600000 by omega), (show slots + _ ≤ 7302250 by omega)⟩) (fun r1_ u1 h1_ => ?_)
  refine g_far (fun far_ => ?_)
  refine g_asc ?_
  refine g_aloadn X.1 dL_law_1324 2 rfl rfl ?_
  refine g_scr X 1 dL_law_1325 dL_law_1326 dL_law_1327 (by decide) dL_law_1328 dL_law_1329 (by omega) ?_
  refine g_scr X 2 dL_law_1330 dL_law_1331 dL_law_1332 (by decide) dL_law_1333 dL_law_1334 (by omega) ?_
  refine g_scr X 3 dL_law_1335 dL_law_1336 dL_law_1337 (by decide) dL_law_1338 dL_law_1339 (by omega) ?_
  refine g_callRi X.1 (rd_V X.1 (k_X5_sheet l D q tt a v (xs (k + 1)) (xs (k + 2)) (xs (k + 3))) gL_law_X5_sheet rfl rfl rfl 3 ok_X5_sheet rfl 0 rfl rfl (rest := [.int r1_]) rfl rfl (Nat.le_of_ble_eq_true rfl) dL_law_1340 ⟨(Nat.le_of_ble_eq_true rfl), (Nat.le_of_ble_eq_true rfl)⟩ ⟨(show cells + 2 + _ ≤ 600000 by omega), (show slots + 42 + _ ≤ 7302250 by omega)⟩) (fun r2_ u2 h2_ => ?_)
  refine g_asc' ?_
  have ho_ : SheO (o_sheets o) u1.1 u1.2 (xs (k + 1)) (xs (k + 2)) (xs (k + 3)) := h1_.2
  have e_ : r1_ = r2_ := h1_.1.trans h2_.1.symm
  refine g_icmp_eq X.1 1625 dL_law_1343 rfl (fun _ => ?_) (fun h_ => absurd e_ h_)
  refine g_wsc _ (w_app _ _ _ _ _ _ _) ?_
  exact kk _ _ _ _ _ _ _ _ _ _ _ _ _ _ ⟨r.gd, r.hr, r.kp, r.kh, r.tl, r.tm, r.n2, r.tu, r.tb, r.ro, r.rc, r.rm, r.r1, r.gb, r.gn, r.mn, r.c3, (show ShG u2.1 u2.2.1 by rw [h2_.2.1, h2_.2.2.1]; exact sheet_sg r.sg), (show ∀ j, j < 4 → ShJ (u1.2 ++ P) (u1.1 j) (u2.1 j) (u2.2.1 j) (fun k2 => u2.2.2 (40 * j + k2)) by rw [h2_.2.1, h2_.2.2.1, h2_.2.2.2]; exact sheet_sh r.sh ho_), (sheet_sd (MM := fun i k2 => m_numbers v (40 * i + k2)) r.sh r.sd ho_ (far_new far_)), r.sp, (fun i hi => (r.sv i hi).mono (fun x_ hx_ => List.mem_append_right _ hx_))⟩ (by omega) (by omega)
end LAW
