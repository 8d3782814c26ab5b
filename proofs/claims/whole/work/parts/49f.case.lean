section LAW
variable {p : Program} {l : Launch} {e : Env} {s : State} {m : MethodId} {below : List Frame} {meth : Method} {c : Code} {D : va_G} {q : Nat → ClassId} {tt : Nat → Nat} {b L : Nat} {xs : Nat → Int32}
variable {pc : Nat} {lv : List (Nat × Value)} {st : List Value} {ws : va_W} {cells slots : Nat}
set_option maxRecDepth 100000 in
set_option maxHeartbeats 4000000 in
theorem lz_takenN {B : Nat → Nat → Nat} {a : Nat → Nat} {o : OC} {h1 h2 h3 : HC} {t : TC} {g : GC} {P : List PE} {v : MC} {N n rn c0 k : Nat} (X : Lx p s m meth c D q tt b L xs) (r : LR o h1 h3 t g P v N n rn c0) (hk : k + 5 ≤ L) (hc : cells + 10 ≤ 600000) (hs : slots + 60 ≤ 7302250) (jno_ : ∀ j, j < 4 → xs (k + 1) = nI j → (o_shelvedRows o) j = none) (kk : ∀ (o : OC) (h1 h2 h3 : HC) (t : TC) (g : GC) (P : List PE) (v : MC) (N n rn c0 c2 s2 : Nat), LR o h1 h3 t g P v N n rn c0 → c2 ≤ cells + 2 → s2 ≤ slots + 42 → GL p l e s m below meth c D b 1625 (lvk b B a k) [] ((ow q B o ++ (hw q (B 1) h1 ++ (hw q (B 2) h2 ++ (hw q (B 3) h3 ++ (tw q (B 4) t ++ (sw q (B 5) g)))))) ++ (pw q P ++ mw q a v)) c2 s2) : GL p l e s m below meth c D b 1477 (lvk b B a k) [] ((ow q B o ++ (hw q (B 1) h1 ++ (hw q (B 2) h2 ++ (hw q (B 3) h3 ++ (tw q (B 4) t ++ (sw q (B 5) g)))))) ++ (pw q P ++ mw q a v)) cells slots := by
  refine g_aloadn X.1 dL_law_1477 1 rfl rfl ?_
  refine g_scr X 1 dL_law_1478 dL_law_1479 dL_law_1480 (by decide) dL_law_1481 dL_law_1482 (by omega) ?_
  refine g_scr X 2 dL_law_1483 dL_law_1484 dL_law_1485 (by decide) dL_law_1486 dL_law_1487 (by omega) ?_
  refine g_callLi X.1 (rd_V X.1 (k_takN l D q tt B o h1 h2 h3 t g (m_s v) N (xs (k + 1)) (xs (k + 2)) r.gd r.hr jno_) gL_law_X4_taken rfl rfl rfl 2 ok_X4_taken rfl 0 rfl rfl (rest := []) rfl rfl (Nat.le_of_ble_eq_true rfl) dL_law_1488 ⟨(Nat.le_of_ble_eq_true rfl), (Nat.le_of_ble_eq_true rfl)⟩ ⟨(show cells + _ ≤ 600000 by omega), (show slots + _ ≤ 7302250 by omega)⟩) (fun r1_ u1 h1_ => ?_)
  refine g_asc ?_
  refine g_aloadn X.1 dL_law_1491 2 rfl rfl ?_
  refine g_scr X 1 dL_law_1492 dL_law_1493 dL_law_1494 (by decide) dL_law_1495 dL_law_1496 (by omega) ?_
  refine g_scr X 2 dL_law_1497 dL_law_1498 dL_law_1499 (by decide) dL_law_1500 dL_law_1501 (by omega) ?_
  refine g_callRi X.1 (rd_V X.1 (k_X5_taken l D q tt a v N (xs (k + 1)) (xs (k + 2)) r.gd) gL_law_X5_taken rfl rfl rfl 2 ok_X5_taken rfl 0 rfl rfl (rest := [.int r1_]) rfl rfl (Nat.le_of_ble_eq_true rfl) dL_law_1502 ⟨(Nat.le_of_ble_eq_true rfl), (Nat.le_of_ble_eq_true rfl)⟩ ⟨(show cells + 0 + _ ≤ 600000 by omega), (show slots + 0 + _ ≤ 7302250 by omega)⟩) (fun r2_ u2 h2_ => ?_)
  refine g_asc' ?_
  have e_ : r1_ = r2_ := h1_.trans ((tk_N r.gd r.sp (sv_no r jno_)).trans h2_.symm)
  refine g_icmp_eq X.1 1625 dL_law_1505 rfl (fun _ => ?_) (fun h_ => absurd e_ h_)
  exact kk _ _ _ _ _ _ _ _ _ _ _ _ _ _ r (by omega) (by omega)

set_option maxRecDepth 100000 in
set_option maxHeartbeats 4000000 in
theorem lz_takenS {B : Nat → Nat → Nat} {a : Nat → Nat} {o : OC} {h1 h2 h3 : HC} {t : TC} {g : GC} {P : List PE} {v : MC} {N n rn c0 k : Nat} {j xa ya nn : Nat} {ff : Nat → Int64} {Qs : List PE} (X : Lx p s m meth c D q tt b L xs) (r : LR o h1 h3 t g P v N n rn c0) (hk : k + 5 ≤ L) (hc : cells + 10 ≤ 600000) (hs : slots + 60 ≤ 7302250) (jj_ : j < 4) (jx_ : xs (k + 1) = nI j) (js_ : (o_shelvedRows o) j = some xa) (jp_ : P.Perm ((xa, ya, m_holdsWhich v j, nn, ff) :: Qs)) (jW_ : m_holdsWhat v j = 2) (jn_ : nn ≤ 40) (jZ_ : m_holdsMany v j = nI nn) (kk : ∀ (o : OC) (h1 h2 h3 : HC) (t : TC) (g : GC) (P : List PE) (v : MC) (N n rn c0 c2 s2 : Nat), LR o h1 h3 t g P v N n rn c0 → c2 ≤ cells + 2 → s2 ≤ slots + 42 → GL p l e s m below meth c D b 1625 (lvk b B a k) [] ((ow q B o ++ (hw q (B 1) h1 ++ (hw q (B 2) h2 ++ (hw q (B 3) h3 ++ (tw q (B 4) t ++ (sw q (B 5) g)))))) ++ (pw q P ++ mw q a v)) c2 s2) : GL p l e s m below meth c D b 1477 (lvk b B a k) [] ((ow q B o ++ (hw q (B 1) h1 ++ (hw q (B 2) h2 ++ (hw q (B 3) h3 ++ (tw q (B 4) t ++ (sw q (B 5) g)))))) ++ (pw q P ++ mw q a v)) cells slots := by
  refine g_prm _ (pr_out jp_ _ _ _ _ _ _ _) ?_
  refine g_aloadn X.1 dL_law_1477 1 rfl rfl ?_
  refine g_scr X 1 dL_law_1478 dL_law_1479 dL_law_1480 (by decide) dL_law_1481 dL_law_1482 (by omega) ?_
  refine g_topci (nI j) jx_ ?_
  refine g_scr X 2 dL_law_1483 dL_law_1484 dL_law_1485 (by decide) dL_law_1486 dL_law_1487 (by omega) ?_
  refine g_callLi X.1 (rd_V X.1 (k_takS l D q tt B o h1 h2 h3 t g (m_s v) N xa ya (m_holdsWhich v j) nn ff j (xs (k + 2)) r.gd r.hr jn_ jj_ js_) gL_law_X4_taken rfl rfl rfl 2 ok_X4_taken rfl 0 rfl rfl (rest := []) rfl rfl (Nat.le_of_ble_eq_true rfl) dL_law_1488 ⟨(Nat.le_of_ble_eq_true rfl), (Nat.le_of_ble_eq_true rfl)⟩ ⟨(show cells + _ ≤ 600000 by omega), (show slots + _ ≤ 7302250 by omega)⟩) (fun r1_ u1 h1_ => ?_)
  refine g_asc ?_
  refine g_aloadn X.1 dL_law_1491 2 rfl rfl ?_
  refine g_scr X 1 dL_law_1492 dL_law_1493 dL_law_1494 (by decide) dL_law_1495 dL_law_1496 (by omega) ?_
  refine g_scr X 2 dL_law_1497 dL_law_1498 dL_law_1499 (by decide) dL_law_1500 dL_law_1501 (by omega) ?_
  refine g_callRi X.1 (rd_V X.1 (k_X5_taken l D q tt a v N (xs (k + 1)) (xs (k + 2)) r.gd) gL_law_X5_taken rfl rfl rfl 2 ok_X5_taken rfl 0 rfl rfl (rest := [.int r1_]) rfl rfl (Nat.le_of_ble_eq_true rfl) dL_law_1502 ⟨(Nat.le_of_ble_eq_true rfl), (Nat.le_of_ble_eq_true rfl)⟩ ⟨(show cells + 0 + _ ≤ 600000 by omega), (show slots + 0 + _ ≤ 7302250 by omega)⟩) (fun r2_ u2 h2_ => ?_)
  refine g_asc' ?_
  have e_ : r1_ = r2_ := h1_.trans ((tk_S jj_ jx_ jW_ jZ_).trans h2_.symm)
  refine g_icmp_eq X.1 1625 dL_law_1505 rfl (fun _ => ?_) (fun h_ => absurd e_ h_)
  refine g_prm _ (pr_out (P := (xa, ya, m_holdsWhich v j, nn, ff) :: Qs) (List.Perm.refl _) _ _ _ _ _ _ _).symm ?_
  exact kk _ _ _ _ _ _ _ _ _ _ _ _ _ _ (r.mono (fun x_ hx_ => jp_.mem_iff.mp hx_)) (by omega) (by omega)

set_option maxRecDepth 100000 in
set_option maxHeartbeats 4000000 in
theorem lz_taken {B : Nat → Nat → Nat} {a : Nat → Nat} {o : OC} {h1 h2 h3 : HC} {t : TC} {g : GC} {P : List PE} {v : MC} {N n rn c0 k : Nat} (X : Lx p s m meth c D q tt b L xs) (r : LR o h1 h3 t g P v N n rn c0) (hk : k + 5 ≤ L) (hc : cells + 10 ≤ 600000) (hs : slots + 60 ≤ 7302250) (kk : ∀ (o : OC) (h1 h2 h3 : HC) (t : TC) (g : GC) (P : List PE) (v : MC) (N n rn c0 c2 s2 : Nat), LR o h1 h3 t g P v N n rn c0 → c2 ≤ cells + 2 → s2 ≤ slots + 42 → GL p l e s m below meth c D b 1625 (lvk b B a k) [] ((ow q B o ++ (hw q (B 1) h1 ++ (hw q (B 2) h2 ++ (hw q (B 3) h3 ++ (tw q (B 4) t ++ (sw q (B 5) g)))))) ++ (pw q P ++ mw q a v)) c2 s2) : GL p l e s m below meth c D b 1477 (lvk b B a k) [] ((ow q B o ++ (hw q (B 1) h1 ++ (hw q (B 2) h2 ++ (hw q (B 3) h3 ++ (tw q (B 4) t ++ (sw q (B 5) g)))))) ++ (pw q P ++ mw q a v)) cells slots := by
  rcases sv_cs r (xs (k + 1)) with h_ | ⟨j, xa, ya, nn, ff, jj_, jx_, js_, jm_, jW_, jn_, jZ_⟩
  · exact lz_takenN X r hk hc hs h_ kk
  · obtain ⟨Qs, jp_⟩ := ex_pm jm_
    exact lz_takenS X r hk hc hs jj_ jx_ js_ jp_ jW_ jn_ jZ_ kk
end LAW
