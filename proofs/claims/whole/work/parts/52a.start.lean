/-! THE LAW'S START -/
section LAW
variable {p : Program} {l : Launch} {e : Env} {s : State} {m : MethodId} {below : List Frame} {meth : Method} {c : Code} {D : va_G} {q : Nat → ClassId} {tt : Nat → Nat} {b L : Nat} {xs : Nat → Int32}
variable {pc : Nat} {lv : List (Nat × Value)} {st : List Value} {ws : va_W} {cells slots : Nat}

theorem spi_1 : ∀ j, j < 4 → (upd (upd (upd (upd (fun _ => 0) 0 (-1)) 1 (-1)) 2 (-1)) 3 (-1)) j = -1 := by decide +kernel
theorem pp_0 (j : Nat) : ppS (fun _ => 0) (fun _ => 0) j = -1 := if_neg (show ¬ (0 : Int32) = 1 by decide)
theorem hl_0 : ∀ k, k < 4 → (va_cpy (fun z => tLF.getD z 0) (fun _ => 0) 0 0 4) k = (upd (bgS (fun _ => 0)) 2 1) (3 + k) := by decide +kernel
/-- both at first -/
theorem lr_0 : LR (0, (fun _ => 0), 0, (fun _ => none), (fun _ => none), (upd (upd (upd (upd (fun _ => 0) 0 (-1)) 1 (-1)) 2 (-1)) 3 (-1))) ((va_cpy (fun z => tLF.getD z 0) (fun _ => 0) 0 0 4), (fun _ => 0), (fun _ => 0), (fun _ => 0), (fun _ => 0), 0, 0, 0, 1, (fun _ => 0), (fun _ => 0)) ((va_cpy (fun z => tLF.getD z 0) (fun _ => 0) 0 0 4), (fun _ => 0), (fun _ => 0), (fun _ => 0), (fun _ => 0), 0, 0, 0, 1, (fun _ => 0), (fun _ => 0)) (0, (fun _ => 0), 0, 0, 0) ((fun _ => 0), 0, 0, 0, 0, 0) [] ((upd (bgS (fun _ => 0)) 2 1), (fun _ => 0), (fun _ => 0), (fun _ => 0), (fun _ => 0), 0, (fun _ => 0), 0, 0, 0, 0, 0, 0, (fun _ => 0), (fun _ => 0), (fun _ => 0), 0, (upd (upd (upd (upd (fun _ => 0) 0 (-1)) 1 (-1)) 2 (-1)) 3 (-1)), (fun _ => 0), (fun _ => 0), (fun _ => 0), (fun _ => 0), (fun _ => 0), (fun _ => 0), 0, 0, 0, 0, 0) 0 0 0 0 :=
  ⟨(Gd_bg _).z 1, ⟨hl_0, fun k h => absurd h (Nat.not_lt_zero k), by decide +kernel, by decide +kernel, by decide +kernel, by decide +kernel⟩, rfl, fun h => absurd rfl h, rfl, rfl, Nat.zero_le 200, fun k h => absurd h (Nat.not_lt_zero k), fun k h => absurd h (Nat.not_lt_zero k), rfl, rfl, rfl, Nat.zero_le 10, rfl, rfl, rfl, Nat.zero_le 30, fun j hj => ⟨Or.inl (spi_1 j hj), 0, Nat.zero_le 40, rfl⟩, fun j hj => Or.inl ⟨rfl, spi_1 j hj⟩, fun i j x _ _ h _ => absurd (show (none : Option Nat) = some x from h) (fun z => by cases z), fun j hj => (spi_1 j hj).trans (pp_0 j).symm, fun j hj => Or.inl ⟨rfl, Or.inl rfl⟩⟩
theorem w_nil {q : Nat → ClassId} (A M : va_W) : A ++ M = A ++ (pw q [] ++ M) := rfl
set_option maxRecDepth 100000 in
theorem wi_1 : Cond.classLink RL 7 RX4 ∈ wsL_law ∧ Cond.instantiable RX4 11 ∈ wsL_law ∧ Cond.initialized RX4 ∈ wsL_law ∧ Cond.methodLink RL 9 yX4_init ∈ wsL_law ∧ Cond.instanceMethod yX4_init ∈ wsL_law ∧ Cond.initialized yX4_init.cls ∈ wsL_law := by decide +kernel
set_option maxRecDepth 100000 in
theorem wi_2 : Cond.classLink RL 10 RX5 ∈ wsL_law ∧ Cond.instantiable RX5 29 ∈ wsL_law ∧ Cond.initialized RX5 ∈ wsL_law ∧ Cond.methodLink RL 12 yX5_init ∈ wsL_law ∧ Cond.instanceMethod yX5_init ∈ wsL_law ∧ Cond.initialized yX5_init.cls ∈ wsL_law := by decide +kernel
set_option maxRecDepth 100000 in
set_option maxHeartbeats 4000000 in
theorem lz_start (hret : meth.sig.returnType = ret) (X : Lx p s m meth c D q tt b L xs) : GL p l e s m below meth c D b 0 [(0, .ref b)] [] [] 0 0 := by
  refine g_new X.1 fx4 inlX4 [.null, .null, .null, .int 0, .null, .null, .null, .int 0, .null, .null, .null] (by decide) wi_1.1 wi_1.2.1 wi_1.2.2.1 (Nat.le_of_ble_eq_true rfl) (Nat.le_of_ble_eq_true rfl) dL_law_0 (fun z_ => ?_)
  refine g_wsc ([(z_, .inr (4, [.null, .null, .null, .int 0, .null, .null, .null, .int 0, .null, .null, .null]))] : va_W) rfl ?_
  refine g_dup X.1 dL_law_3 rfl ?_
  refine g_callAv X.1 (rd_I (ret := none) X.1 (k_X4_init l D q tt z_) gL_law_X4_init rfl rfl rfl 0 ok_X4_init rfl wi_1.2.2.2.1 wi_1.2.2.2.2.1 wi_1.2.2.2.2.2 (rest := [.ref z_]) rfl rfl (Nat.le_of_ble_eq_true rfl) dL_law_4 ⟨(Nat.le_of_ble_eq_true rfl), (Nat.le_of_ble_eq_true rfl)⟩ ⟨(Nat.le_of_ble_eq_true rfl), (Nat.le_of_ble_eq_true rfl)⟩) (fun B hB => ?_)
  refine g_astoren X.1 [(1, .ref z_), (0, .ref b)] dL_law_7 rfl (by decide) rfl ?_
  refine g_new X.1 fx5 inlX5 [.null, .null, .null, .null, .null, .int 0, .null, .int 0, .int 0, .int 0, .int 0, .int 0, .int 0, .null, .null, .null, .int 0, .null, .null, .null, .null, .null, .null, .null, .int 0, .int 0, .int 0, .int 0, .int 0] (by decide) wi_2.1 wi_2.2.1 wi_2.2.2.1 (Nat.le_of_ble_eq_true rfl) (Nat.le_of_ble_eq_true rfl) dL_law_8 (fun y_ => ?_)
  refine g_dup X.1 dL_law_11 rfl ?_
  refine g_callRv X.1 (rd_I (ret := none) X.1 (k_X5_init l D q tt y_) gL_law_X5_init rfl rfl rfl 0 ok_X5_init rfl wi_2.2.2.2.1 wi_2.2.2.2.2.1 wi_2.2.2.2.2.2 (rest := [.ref y_]) rfl rfl (Nat.le_of_ble_eq_true rfl) dL_law_12 ⟨(Nat.le_of_ble_eq_true rfl), (Nat.le_of_ble_eq_true rfl)⟩ ⟨(Nat.le_of_ble_eq_true rfl), (Nat.le_of_ble_eq_true rfl)⟩) (fun a ha => ?_)
  refine g_astoren X.1 [(2, .ref y_), (1, .ref z_), (0, .ref b)] dL_law_15 rfl (by decide) rfl ?_
  refine g_iconst X.1 0 dL_law_16 (by decide) ?_
  refine g_istoren X.1 [(3, .int 0), (2, .ref y_), (1, .ref z_), (0, .ref b)] dL_law_17 rfl (by decide) rfl ?_
  refine g_sub [3, 2, 1, 0] (lv' := lvk b B a 0) (by unfold lvk; rw [hB, ha]; rfl) ?_
  refine g_wsc _ (w_nil (q := q) _ _) ?_
  exact lz_loop hret X (L + 1) 0 (0, (fun _ => 0), 0, (fun _ => none), (fun _ => none), (upd (upd (upd (upd (fun _ => 0) 0 (-1)) 1 (-1)) 2 (-1)) 3 (-1))) ((va_cpy (fun z => tLF.getD z 0) (fun _ => 0) 0 0 4), (fun _ => 0), (fun _ => 0), (fun _ => 0), (fun _ => 0), 0, 0, 0, 1, (fun _ => 0), (fun _ => 0)) ((va_cpy (fun z => tLF.getD z 0) (fun _ => 0) 0 0 4), (fun _ => 0), (fun _ => 0), (fun _ => 0), (fun _ => 0), 0, 0, 0, 1, (fun _ => 0), (fun _ => 0)) ((va_cpy (fun z => tLF.getD z 0) (fun _ => 0) 0 0 4), (fun _ => 0), (fun _ => 0), (fun _ => 0), (fun _ => 0), 0, 0, 0, 1, (fun _ => 0), (fun _ => 0)) (0, (fun _ => 0), 0, 0, 0) ((fun _ => 0), 0, 0, 0, 0, 0) [] ((upd (bgS (fun _ => 0)) 2 1), (fun _ => 0), (fun _ => 0), (fun _ => 0), (fun _ => 0), 0, (fun _ => 0), 0, 0, 0, 0, 0, 0, (fun _ => 0), (fun _ => 0), (fun _ => 0), 0, (upd (upd (upd (upd (fun _ => 0) 0 (-1)) 1 (-1)) 2 (-1)) 3 (-1)), (fun _ => 0), (fun _ => 0), (fun _ => 0), (fun _ => 0), (fun _ => 0), (fun _ => 0), 0, 0, 0, 0, 0) 0 0 0 0 _ _ (by omega) (Nat.zero_le L) lr_0 (Nat.le_of_ble_eq_true rfl) (Nat.le_of_ble_eq_true rfl)
end LAW
set_option maxRecDepth 100000 in
set_option maxHeartbeats 4000000 in
theorem whole_start {p : Program} {e : Env} {s : State} {m : MethodId} {below : List Frame} {meth : Method} {c : Code} (l : Launch) (hflags : l.flags = flags0) {b L : Nat} {xs : Nat → Int32} (hL : L ≤ 2560) (C0 : lw_At p s m meth c b L xs) : W p l e room_1 s m #[Value.ref b] below meth c s.heap [] 0 0 (lw_Z below #[Value.ref b] s) (entryFrame m ([Value.ref b] : List Value).toArray 4) := by
  obtain ⟨hx, hb, hret, hml, hown, hts, hX, hbl, hlocks, hgv⟩ := id C0
  obtain ⟨D, q, tt, hE⟩ := en_ev hts (flat_of_before _ hgv)
  have X : Lx p s m meth c D q tt b L xs := ⟨⟨hx, hb, hml, hown, fun w hw => hts w (wsL_law_in w hw), hlocks, hE, fun _ h => h⟩, hX, hbl, hL⟩
  have h1 := lz_start (l := l) (e := e) (below := below) hret X
  have hl := lv_entry ([.ref b]) (n := 4) (Nat.le_of_ble_eq_true rfl)
  rw [lg_entry_eq]
  exact h1 s.heap [] _ (fun k w h => by simp at h) ⟨fun i j w1 w2 h => by simp at h, fun k w h => by simp at h⟩ va_S.rf hl
