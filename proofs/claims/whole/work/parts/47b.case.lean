section LAW
variable {p : Program} {l : Launch} {e : Env} {s : State} {m : MethodId} {below : List Frame} {meth : Method} {c : Code} {D : va_G} {q : Nat → ClassId} {tt : Nat → Nat} {b L : Nat} {xs : Nat → Int32}
variable {pc : Nat} {lv : List (Nat × Value)} {st : List Value} {ws : va_W} {cells slots : Nat}
set_option maxRecDepth 100000 in
set_option maxHeartbeats 4000000 in
theorem lz_act {B : Nat → Nat → Nat} {a : Nat → Nat} {o : OC} {h1 h2 h3 : HC} {t : TC} {g : GC} {P : List PE} {v : MC} {N n rn c0 k : Nat} (X : Lx p s m meth c D q tt b L xs) (r : LR o h1 h3 t g P v N n rn c0) (hk : k + 5 ≤ L) (hc : cells + 10 ≤ 600000) (hs : slots + 60 ≤ 7302250) (kk : ∀ (o : OC) (h1 h2 h3 : HC) (t : TC) (g : GC) (P : List PE) (v : MC) (N n rn c0 c2 s2 : Nat), LR o h1 h3 t g P v N n rn c0 → c2 ≤ cells + 2 → s2 ≤ slots + 42 → GL p l e s m below meth c D b 1625 (lvk b B a k) [] ((ow q B o ++ (hw q (B 1) h1 ++ (hw q (B 2) h2 ++ (hw q (B 3) h3 ++ (tw q (B 4) t ++ (sw q (B 5) g)))))) ++ (pw q P ++ mw q a v)) c2 s2) : GL p l e s m below meth c D b 1510 (lvk b B a k) [] ((ow q B o ++ (hw q (B 1) h1 ++ (hw q (B 2) h2 ++ (hw q (B 3) h3 ++ (tw q (B 4) t ++ (sw q (B 5) g)))))) ++ (pw q P ++ mw q a v)) cells slots := by
  refine g_aloadn X.1 dL_law_1510 1 rfl rfl ?_
  refine g_scr X 1 dL_law_1511 dL_law_1512 dL_law_1513 (by decide) dL_law_1514 dL_law_1515 (by omega) ?_
  refine g_scr X 2 dL_law_1516 dL_law_1517 dL_law_1518 (by decide) dL_law_1519 dL_law_1520 (by omega) ?_
  refine g_scr X 3 dL_law_1521 dL_law_1522 dL_law_1523 (by decide) dL_law_1524 dL_law_1525 (by omega) ?_
  refine g_callLi X.1 (rd_V X.1 (k_X4_act l D q tt B o h1 h2 h3 t g (m_s v) N (xs (k + 1)) (xs (k + 2)) (xs (k + 3)) r.gd r.hr) gL_law_X4_act rfl rfl rfl 3 ok_X4_act rfl 0 rfl rfl (rest := []) rfl rfl (Nat.le_of_ble_eq_true rfl) dL_law_1526 ⟨(Nat.le_of_ble_eq_true rfl), (Nat.le_of_ble_eq_true rfl)⟩ ⟨(show cells + _ ≤ 600000 by omega), (show slots + _ ≤ 7302250 by omega)⟩) (fun r1_ u1 h1_ => ?_)
  refine g_asc ?_
  refine g_aloadn X.1 dL_law_1529 2 rfl rfl ?_
  refine g_scr X 1 dL_law_1530 dL_law_1531 dL_law_1532 (by decide) dL_law_1533 dL_law_1534 (by omega) ?_
  refine g_scr X 2 dL_law_1535 dL_law_1536 dL_law_1537 (by decide) dL_law_1538 dL_law_1539 (by omega) ?_
  refine g_scr X 3 dL_law_1540 dL_law_1541 dL_law_1542 (by decide) dL_law_1543 dL_law_1544 (by omega) ?_
  refine g_callRi X.1 (rd_V X.1 (k_X5_act l D q tt a v N (xs (k + 1)) (xs (k + 2)) (xs (k + 3)) r.gd) gL_law_X5_act rfl rfl rfl 3 ok_X5_act rfl 0 rfl rfl (rest := [.int r1_]) rfl rfl (Nat.le_of_ble_eq_true rfl) dL_law_1545 ⟨(Nat.le_of_ble_eq_true rfl), (Nat.le_of_ble_eq_true rfl)⟩ ⟨(show cells + 0 + _ ≤ 600000 by omega), (show slots + 0 + _ ≤ 7302250 by omega)⟩) (fun r2_ u2 h2_ => ?_)
  refine g_asc' ?_
  obtain ⟨e1_, ea_, eb_⟩ := h1_
  obtain ⟨f1_, fa_, fb_⟩ := h2_
  have e_ : r1_ = r2_ := e1_.trans ((act_congr r.sp).1.trans ((by rw [r.gb] : R_act _ _ (gB g) _ _ _ = R_act _ _ (m_bodies v) _ _ _).trans f1_.symm))
  refine g_icmp_eq X.1 1625 dL_law_1548 rfl (fun _ => ?_) (fun h_ => absurd e_ h_)
  exact kk _ _ _ _ _ _ _ _ _ _ _ _ _ _ ⟨r.gd, r.hr, r.kp, r.kh, r.tl, r.tm, r.n2, r.tu, r.tb, r.ro, r.rc, r.rm, r.r1, (show gB u1 = u2.1 by rw [ea_, fa_, (act_congr r.sp).2.1, r.gb]), eb_, (show u2.2.1 = _ by rw [fb_, (act_congr r.sp).2.2, r.gb]), act_le, r.sg, r.sh, r.sd, r.sp, r.sv⟩ (by omega) (by omega)
end LAW
