section LAW
variable {p : Program} {l : Launch} {e : Env} {s : State} {m : MethodId} {below : List Frame} {meth : Method} {c : Code} {D : va_G} {q : Nat → ClassId} {tt : Nat → Nat} {b L : Nat} {xs : Nat → Int32}
variable {pc : Nat} {lv : List (Nat × Value)} {st : List Value} {ws : va_W} {cells slots : Nat}
set_option maxRecDepth 100000 in
set_option maxHeartbeats 4000000 in
theorem lz_lawOf {B : Nat → Nat → Nat} {a : Nat → Nat} {o : OC} {h1 h2 h3 : HC} {t : TC} {g : GC} {P : List PE} {v : MC} {N n rn c0 k : Nat} (X : Lx p s m meth c D q tt b L xs) (r : LR o h1 h3 t g P v N n rn c0) (hk : k + 5 ≤ L) (hc : cells + 10 ≤ 600000) (hs : slots + 60 ≤ 7302250) (kk : ∀ (o : OC) (h1 h2 h3 : HC) (t : TC) (g : GC) (P : List PE) (v : MC) (N n rn c0 c2 s2 : Nat), LR o h1 h3 t g P v N n rn c0 → c2 ≤ cells + 2 → s2 ≤ slots + 42 → GL p l e s m below meth c D b 1625 (lvk b B a k) [] ((ow q B o ++ (hw q (B 1) h1 ++ (hw q (B 2) h2 ++ (hw q (B 3) h3 ++ (tw q (B 4) t ++ (sw q (B 5) g)))))) ++ (pw q P ++ mw q a v)) c2 s2) : GL p l e s m below meth c D b 337 (lvk b B a k) [] ((ow q B o ++ (hw q (B 1) h1 ++ (hw q (B 2) h2 ++ (hw q (B 3) h3 ++ (tw q (B 4) t ++ (sw q (B 5) g)))))) ++ (pw q P ++ mw q a v)) cells slots := by
  refine g_aloadn X.1 dL_law_337 1 rfl rfl ?_
  refine g_scr X 1 dL_law_338 dL_law_339 dL_law_340 (by decide) dL_law_341 dL_law_342 (by omega) ?_
  refine g_callLi X.1 (rd_V X.1 (k_X4_lawOf l D q tt B o h1 h2 h3 t g (m_s v) N (xs (k + 1)) r.gd r.hr) gL_law_X4_lawOf rfl rfl rfl 1 ok_X4_lawOf rfl 0 rfl rfl (rest := []) rfl rfl (Nat.le_of_ble_eq_true rfl) dL_law_343 ⟨(Nat.le_of_ble_eq_true rfl), (Nat.le_of_ble_eq_true rfl)⟩ ⟨(show cells + _ ≤ 600000 by omega), (show slots + _ ≤ 7302250 by omega)⟩) (fun r1_ u1 h1_ => ?_)
  refine g_asc ?_
  refine g_aloadn X.1 dL_law_346 2 rfl rfl ?_
  refine g_scr X 1 dL_law_347 dL_law_348 dL_law_349 (by decide) dL_law_350 dL_law_351 (by omega) ?_
  refine g_callRi X.1 (rd_V X.1 (k_X5_lawOf l D q tt a v N (xs (k + 1)) r.gd) gL_law_X5_lawOf rfl rfl rfl 1 ok_X5_lawOf rfl 0 rfl rfl (rest := [.int r1_]) rfl rfl (Nat.le_of_ble_eq_true rfl) dL_law_352 ⟨(Nat.le_of_ble_eq_true rfl), (Nat.le_of_ble_eq_true rfl)⟩ ⟨(show cells + 0 + _ ≤ 600000 by omega), (show slots + 0 + _ ≤ 7302250 by omega)⟩) (fun r2_ u2 h2_ => ?_)
  refine g_asc' ?_
  have e_ : r1_ = r2_ := h1_.trans h2_.symm
  refine g_icmp_eq X.1 1625 dL_law_355 rfl (fun _ => ?_) (fun h_ => absurd e_ h_)
  exact kk _ _ _ _ _ _ _ _ _ _ _ _ _ _ (r.house ⟨r.gd, r.hr⟩ ⟨rfl, rfl, rfl, rfl, rfl, rfl, rfl, rfl, rfl, rfl, rfl, rfl, rfl, rfl⟩) (by omega) (by omega)

set_option maxRecDepth 100000 in
set_option maxHeartbeats 4000000 in
theorem lz_of {B : Nat → Nat → Nat} {a : Nat → Nat} {o : OC} {h1 h2 h3 : HC} {t : TC} {g : GC} {P : List PE} {v : MC} {N n rn c0 k : Nat} (X : Lx p s m meth c D q tt b L xs) (r : LR o h1 h3 t g P v N n rn c0) (hk : k + 5 ≤ L) (hc : cells + 10 ≤ 600000) (hs : slots + 60 ≤ 7302250) (kk : ∀ (o : OC) (h1 h2 h3 : HC) (t : TC) (g : GC) (P : List PE) (v : MC) (N n rn c0 c2 s2 : Nat), LR o h1 h3 t g P v N n rn c0 → c2 ≤ cells + 2 → s2 ≤ slots + 42 → GL p l e s m below meth c D b 1625 (lvk b B a k) [] ((ow q B o ++ (hw q (B 1) h1 ++ (hw q (B 2) h2 ++ (hw q (B 3) h3 ++ (tw q (B 4) t ++ (sw q (B 5) g)))))) ++ (pw q P ++ mw q a v)) c2 s2) : GL p l e s m below meth c D b 413 (lvk b B a k) [] ((ow q B o ++ (hw q (B 1) h1 ++ (hw q (B 2) h2 ++ (hw q (B 3) h3 ++ (tw q (B 4) t ++ (sw q (B 5) g)))))) ++ (pw q P ++ mw q a v)) cells slots := by
  refine g_aloadn X.1 dL_law_413 1 rfl rfl ?_
  refine g_scr X 1 dL_law_414 dL_law_415 dL_law_416 (by decide) dL_law_417 dL_law_418 (by omega) ?_
  refine g_scr X 2 dL_law_419 dL_law_420 dL_law_421 (by decide) dL_law_422 dL_law_423 (by omega) ?_
  refine g_callLi X.1 (rd_V X.1 (k_X4_of l D q tt B o h1 h2 h3 t g (m_s v) N (xs (k + 1)) (xs (k + 2)) r.gd r.hr) gL_law_X4_of rfl rfl rfl 2 ok_X4_of rfl 0 rfl rfl (rest := []) rfl rfl (Nat.le_of_ble_eq_true rfl) dL_law_424 ⟨(Nat.le_of_ble_eq_true rfl), (Nat.le_of_ble_eq_true rfl)⟩ ⟨(show cells + _ ≤ 600000 by omega), (show slots + _ ≤ 7302250 by omega)⟩) (fun r1_ u1 h1_ => ?_)
  refine g_asc ?_
  refine g_aloadn X.1 dL_law_427 2 rfl rfl ?_
  refine g_scr X 1 dL_law_428 dL_law_429 dL_law_430 (by decide) dL_law_431 dL_law_432 (by omega) ?_
  refine g_scr X 2 dL_law_433 dL_law_434 dL_law_435 (by decide) dL_law_436 dL_law_437 (by omega) ?_
  refine g_callRi X.1 (rd_V X.1 (k_X5_of l D q tt a v N (xs (k + 1)) (xs (k + 2)) r.gd) gL_law_X5_of rfl rfl rfl 2 ok_X5_of rfl 0 rfl rfl (rest := [.int r1_]) rfl rfl (Nat.le_of_ble_eq_true rfl) dL_law_438 ⟨(Nat.le_of_ble_eq_true rfl), (Nat.le_of_ble_eq_true rfl)⟩ ⟨(show cells + 0 + _ ≤ 600000 by omega), (show slots + 0 + _ ≤ 7302250 by omega)⟩) (fun r2_ u2 h2_ => ?_)
  refine g_asc' ?_
  have e_ : r1_ = r2_ := h1_.trans h2_.symm
  refine g_icmp_eq X.1 1625 dL_law_441 rfl (fun _ => ?_) (fun h_ => absurd e_ h_)
  exact kk _ _ _ _ _ _ _ _ _ _ _ _ _ _ (r.house ⟨r.gd, r.hr⟩ ⟨rfl, rfl, rfl, rfl, rfl, rfl, rfl, rfl, rfl, rfl, rfl, rfl, rfl, rfl⟩) (by omega) (by omega)

set_option maxRecDepth 100000 in
set_option maxHeartbeats 4000000 in
theorem lz_room {B : Nat → Nat → Nat} {a : Nat → Nat} {o : OC} {h1 h2 h3 : HC} {t : TC} {g : GC} {P : List PE} {v : MC} {N n rn c0 k : Nat} (X : Lx p s m meth c D q tt b L xs) (r : LR o h1 h3 t g P v N n rn c0) (hk : k + 5 ≤ L) (hc : cells + 10 ≤ 600000) (hs : slots + 60 ≤ 7302250) (kk : ∀ (o : OC) (h1 h2 h3 : HC) (t : TC) (g : GC) (P : List PE) (v : MC) (N n rn c0 c2 s2 : Nat), LR o h1 h3 t g P v N n rn c0 → c2 ≤ cells + 2 → s2 ≤ slots + 42 → GL p l e s m below meth c D b 1625 (lvk b B a k) [] ((ow q B o ++ (hw q (B 1) h1 ++ (hw q (B 2) h2 ++ (hw q (B 3) h3 ++ (tw q (B 4) t ++ (sw q (B 5) g)))))) ++ (pw q P ++ mw q a v)) c2 s2) : GL p l e s m below meth c D b 621 (lvk b B a k) [] ((ow q B o ++ (hw q (B 1) h1 ++ (hw q (B 2) h2 ++ (hw q (B 3) h3 ++ (tw q (B 4) t ++ (sw q (B 5) g)))))) ++ (pw q P ++ mw q a v)) cells slots := by
  refine g_aloadn X.1 dL_law_621 1 rfl rfl ?_
  refine g_scr X 1 dL_law_622 dL_law_623 dL_law_624 (by decide) dL_law_625 dL_law_626 (by omega) ?_
  refine g_scr X 2 dL_law_627 dL_law_628 dL_law_629 (by decide) dL_law_630 dL_law_631 (by omega) ?_
  refine g_callLi X.1 (rd_V X.1 (k_X4_room l D q tt B o h1 h2 h3 t g (m_s v) N (xs (k + 1)) (xs (k + 2)) r.gd r.hr) gL_law_X4_room rfl rfl rfl 2 ok_X4_room rfl 0 rfl rfl (rest := []) rfl rfl (Nat.le_of_ble_eq_true rfl) dL_law_632 ⟨(Nat.le_of_ble_eq_true rfl), (Nat.le_of_ble_eq_true rfl)⟩ ⟨(show cells + _ ≤ 600000 by omega), (show slots + _ ≤ 7302250 by omega)⟩) (fun r1_ u1 h1_ => ?_)
  refine g_asc ?_
  refine g_aloadn X.1 dL_law_635 2 rfl rfl ?_
  refine g_scr X 1 dL_law_636 dL_law_637 dL_law_638 (by decide) dL_law_639 dL_law_640 (by omega) ?_
  refine g_scr X 2 dL_law_641 dL_law_642 dL_law_643 (by decide) dL_law_644 dL_law_645 (by omega) ?_
  refine g_callRi X.1 (rd_V X.1 (k_X5_room l D q tt a v N (xs (k + 1)) (xs (k + 2)) r.gd) gL_law_X5_room rfl rfl rfl 2 ok_X5_room rfl 0 rfl rfl (rest := [.int r1_]) rfl rfl (Nat.le_of_ble_eq_true rfl) dL_law_646 ⟨(Nat.le_of_ble_eq_true rfl), (Nat.le_of_ble_eq_true rfl)⟩ ⟨(show cells + 0 + _ ≤ 600000 by omega), (show slots + 0 + _ ≤ 7302250 by omega)⟩) (fun r2_ u2 h2_ => ?_)
  refine g_asc' ?_
  have e_ : r1_ = r2_ := h1_.trans h2_.symm
  refine g_icmp_eq X.1 1625 dL_law_649 rfl (fun _ => ?_) (fun h_ => absurd e_ h_)
  exact kk _ _ _ _ _ _ _ _ _ _ _ _ _ _ (r.house ⟨r.gd, r.hr⟩ ⟨rfl, rfl, rfl, rfl, rfl, rfl, rfl, rfl, rfl, rfl, rfl, rfl, rfl, rfl⟩) (by omega) (by omega)

set_option maxRecDepth 100000 in
set_option maxHeartbeats 4000000 in
theorem lz_stir {B : Nat → Nat → Nat} {a : Nat → Nat} {o : OC} {h1 h2 h3 : HC} {t : TC} {g : GC} {P : List PE} {v : MC} {N n rn c0 k : Nat} (X : Lx p s m meth c D q tt b L xs) (r : LR o h1 h3 t g P v N n rn c0) (hk : k + 5 ≤ L) (hc : cells + 10 ≤ 600000) (hs : slots + 60 ≤ 7302250) (kk : ∀ (o : OC) (h1 h2 h3 : HC) (t : TC) (g : GC) (P : List PE) (v : MC) (N n rn c0 c2 s2 : Nat), LR o h1 h3 t g P v N n rn c0 → c2 ≤ cells + 2 → s2 ≤ slots + 42 → GL p l e s m below meth c D b 1625 (lvk b B a k) [] ((ow q B o ++ (hw q (B 1) h1 ++ (hw q (B 2) h2 ++ (hw q (B 3) h3 ++ (tw q (B 4) t ++ (sw q (B 5) g)))))) ++ (pw q P ++ mw q a v)) c2 s2) : GL p l e s m below meth c D b 713 (lvk b B a k) [] ((ow q B o ++ (hw q (B 1) h1 ++ (hw q (B 2) h2 ++ (hw q (B 3) h3 ++ (tw q (B 4) t ++ (sw q (B 5) g)))))) ++ (pw q P ++ mw q a v)) cells slots := by
  refine g_aloadn X.1 dL_law_713 1 rfl rfl ?_
  refine g_scr X 1 dL_law_714 dL_law_715 dL_law_716 (by decide) dL_law_717 dL_law_718 (by omega) ?_
  refine g_callLi X.1 (rd_V X.1 (k_X4_stir l D q tt B o h1 h2 h3 t g (m_s v) N (xs (k + 1)) r.gd r.hr) gL_law_X4_stir rfl rfl rfl 1 ok_X4_stir rfl 0 rfl rfl (rest := []) rfl rfl (Nat.le_of_ble_eq_true rfl) dL_law_719 ⟨(Nat.le_of_ble_eq_true rfl), (Nat.le_of_ble_eq_true rfl)⟩ ⟨(show cells + _ ≤ 600000 by omega), (show slots + _ ≤ 7302250 by omega)⟩) (fun r1_ u1 h1_ => ?_)
  refine g_asc ?_
  refine g_aloadn X.1 dL_law_722 2 rfl rfl ?_
  refine g_scr X 1 dL_law_723 dL_law_724 dL_law_725 (by decide) dL_law_726 dL_law_727 (by omega) ?_
  refine g_callRi X.1 (rd_V X.1 (k_X5_stir l D q tt a v N (xs (k + 1)) r.gd) gL_law_X5_stir rfl rfl rfl 1 ok_X5_stir rfl 0 rfl rfl (rest := [.int r1_]) rfl rfl (Nat.le_of_ble_eq_true rfl) dL_law_728 ⟨(Nat.le_of_ble_eq_true rfl), (Nat.le_of_ble_eq_true rfl)⟩ ⟨(show cells + 0 + _ ≤ 600000 by omega), (show slots + 0 + _ ≤ 7302250 by omega)⟩) (fun r2_ u2 h2_ => ?_)
  refine g_asc' ?_
  have e_ : r1_ = r2_ := h1_.trans h2_.symm
  refine g_icmp_eq X.1 1625 dL_law_731 rfl (fun _ => ?_) (fun h_ => absurd e_ h_)
  exact kk _ _ _ _ _ _ _ _ _ _ _ _ _ _ (r.house ⟨r.gd, r.hr⟩ ⟨rfl, rfl, rfl, rfl, rfl, rfl, rfl, rfl, rfl, rfl, rfl, rfl, rfl, rfl⟩) (by omega) (by omega)

set_option maxRecDepth 100000 in
set_option maxHeartbeats 4000000 in
theorem lz_state {B : Nat → Nat → Nat} {a : Nat → Nat} {o : OC} {h1 h2 h3 : HC} {t : TC} {g : GC} {P : List PE} {v : MC} {N n rn c0 k : Nat} (X : Lx p s m meth c D q tt b L xs) (r : LR o h1 h3 t g P v N n rn c0) (hk : k + 5 ≤ L) (hc : cells + 10 ≤ 600000) (hs : slots + 60 ≤ 7302250) (kk : ∀ (o : OC) (h1 h2 h3 : HC) (t : TC) (g : GC) (P : List PE) (v : MC) (N n rn c0 c2 s2 : Nat), LR o h1 h3 t g P v N n rn c0 → c2 ≤ cells + 2 → s2 ≤ slots + 42 → GL p l e s m below meth c D b 1625 (lvk b B a k) [] ((ow q B o ++ (hw q (B 1) h1 ++ (hw q (B 2) h2 ++ (hw q (B 3) h3 ++ (tw q (B 4) t ++ (sw q (B 5) g)))))) ++ (pw q P ++ mw q a v)) c2 s2) : GL p l e s m below meth c D b 736 (lvk b B a k) [] ((ow q B o ++ (hw q (B 1) h1 ++ (hw q (B 2) h2 ++ (hw q (B 3) h3 ++ (tw q (B 4) t ++ (sw q (B 5) g)))))) ++ (pw q P ++ mw q a v)) cells slots := by
  refine g_aloadn X.1 dL_law_736 1 rfl rfl ?_
  refine g_scr X 1 dL_law_737 dL_law_738 dL_law_739 (by decide) dL_law_740 dL_law_741 (by omega) ?_
  refine g_callLi X.1 (rd_V X.1 (k_X4_state l D q tt B o h1 h2 h3 t g (m_s v) N (xs (k + 1)) r.gd r.hr) gL_law_X4_state rfl rfl rfl 1 ok_X4_state rfl 0 rfl rfl (rest := []) rfl rfl (Nat.le_of_ble_eq_true rfl) dL_law_742 ⟨(Nat.le_of_ble_eq_true rfl), (Nat.le_of_ble_eq_true rfl)⟩ ⟨(show cells + _ ≤ 600000 by omega), (show slots + _ ≤ 7302250 by omega)⟩) (fun r1_ u1 h1_ => ?_)
  refine g_asc ?_
  refine g_aloadn X.1 dL_law_745 2 rfl rfl ?_
  refine g_scr X 1 dL_law_746 dL_law_747 dL_law_748 (by decide) dL_law_749 dL_law_750 (by omega) ?_
  refine g_callRi X.1 (rd_V X.1 (k_X5_state l D q tt a v N (xs (k + 1)) r.gd) gL_law_X5_state rfl rfl rfl 1 ok_X5_state rfl 0 rfl rfl (rest := [.int r1_]) rfl rfl (Nat.le_of_ble_eq_true rfl) dL_law_751 ⟨(Nat.le_of_ble_eq_true rfl), (Nat.le_of_ble_eq_true rfl)⟩ ⟨(show cells + 0 + _ ≤ 600000 by omega), (show slots + 0 + _ ≤ 7302250 by omega)⟩) (fun r2_ u2 h2_ => ?_)
  refine g_asc' ?_
  have e_ : r1_ = r2_ := h1_.trans h2_.symm
  refine g_icmp_eq X.1 1625 dL_law_754 rfl (fun _ => ?_) (fun h_ => absurd e_ h_)
  exact kk _ _ _ _ _ _ _ _ _ _ _ _ _ _ (r.house ⟨r.gd, r.hr⟩ ⟨rfl, rfl, rfl, rfl, rfl, rfl, rfl, rfl, rfl, rfl, rfl, rfl, rfl, rfl⟩) (by omega) (by omega)

set_option maxRecDepth 100000 in
set_option maxHeartbeats 4000000 in
theorem lz_clapping {B : Nat → Nat → Nat} {a : Nat → Nat} {o : OC} {h1 h2 h3 : HC} {t : TC} {g : GC} {P : List PE} {v : MC} {N n rn c0 k : Nat} (X : Lx p s m meth c D q tt b L xs) (r : LR o h1 h3 t g P v N n rn c0) (hk : k + 5 ≤ L) (hc : cells + 10 ≤ 600000) (hs : slots + 60 ≤ 7302250) (kk : ∀ (o : OC) (h1 h2 h3 : HC) (t : TC) (g : GC) (P : List PE) (v : MC) (N n rn c0 c2 s2 : Nat), LR o h1 h3 t g P v N n rn c0 → c2 ≤ cells + 2 → s2 ≤ slots + 42 → GL p l e s m below meth c D b 1625 (lvk b B a k) [] ((ow q B o ++ (hw q (B 1) h1 ++ (hw q (B 2) h2 ++ (hw q (B 3) h3 ++ (tw q (B 4) t ++ (sw q (B 5) g)))))) ++ (pw q P ++ mw q a v)) c2 s2) : GL p l e s m below meth c D b 759 (lvk b B a k) [] ((ow q B o ++ (hw q (B 1) h1 ++ (hw q (B 2) h2 ++ (hw q (B 3) h3 ++ (tw q (B 4) t ++ (sw q (B 5) g)))))) ++ (pw q P ++ mw q a v)) cells slots := by
  refine g_aloadn X.1 dL_law_759 1 rfl rfl ?_
  refine g_scr X 1 dL_law_760 dL_law_761 dL_law_762 (by decide) dL_law_763 dL_law_764 (by omega) ?_
  refine g_callLi X.1 (rd_V X.1 (k_X4_clapping l D q tt B o h1 h2 h3 t g (m_s v) N (xs (k + 1)) r.gd r.hr) gL_law_X4_clapping rfl rfl rfl 1 ok_X4_clapping rfl 0 rfl rfl (rest := []) rfl rfl (Nat.le_of_ble_eq_true rfl) dL_law_765 ⟨(Nat.le_of_ble_eq_true rfl), (Nat.le_of_ble_eq_true rfl)⟩ ⟨(show cells + _ ≤ 600000 by omega), (show slots + _ ≤ 7302250 by omega)⟩) (fun r1_ u1 h1_ => ?_)
  refine g_asc ?_
  refine g_aloadn X.1 dL_law_768 2 rfl rfl ?_
  refine g_scr X 1 dL_law_769 dL_law_770 dL_law_771 (by decide) dL_law_772 dL_law_773 (by omega) ?_
  refine g_callRi X.1 (rd_V X.1 (k_X5_clapping l D q tt a v N (xs (k + 1)) r.gd) gL_law_X5_clapping rfl rfl rfl 1 ok_X5_clapping rfl 0 rfl rfl (rest := [.int r1_]) rfl rfl (Nat.le_of_ble_eq_true rfl) dL_law_774 ⟨(Nat.le_of_ble_eq_true rfl), (Nat.le_of_ble_eq_true rfl)⟩ ⟨(show cells + 0 + _ ≤ 600000 by omega), (show slots + 0 + _ ≤ 7302250 by omega)⟩) (fun r2_ u2 h2_ => ?_)
  refine g_asc' ?_
  have e_ : r1_ = r2_ := h1_.trans h2_.symm
  refine g_icmp_eq X.1 1625 dL_law_777 rfl (fun _ => ?_) (fun h_ => absurd e_ h_)
  exact kk _ _ _ _ _ _ _ _ _ _ _ _ _ _ (r.house ⟨r.gd, r.hr⟩ ⟨rfl, rfl, rfl, rfl, rfl, rfl, rfl, rfl, rfl, rfl, rfl, rfl, rfl, rfl⟩) (by omega) (by omega)
end LAW
