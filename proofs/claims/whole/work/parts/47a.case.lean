section LAW
variable {p : Program} {l : Launch} {e : Env} {s : State} {m : MethodId} {below : List Frame} {meth : Method} {c : Code} {D : va_G} {q : Nat → ClassId} {tt : Nat → Nat} {b L : Nat} {xs : Nat → Int32}
variable {pc : Nat} {lv : List (Nat × Value)} {st : List Value} {ws : va_W} {cells slots : Nat}
set_option maxRecDepth 100000 in
set_option maxHeartbeats 4000000 in
theorem lz_prove {B : Nat → Nat → Nat} {a : Nat → Nat} {o : OC} {h1 h2 h3 : HC} {t : TC} {g : GC} {P : List PE} {v : MC} {N n rn c0 k : Nat} (X : Lx p s m meth c D q tt b L xs) (r : LR o h1 h3 t g P v N n rn c0) (hk : k + 5 ≤ L) (hc : cells + 10 ≤ 600000) (hs : slots + 60 ≤ 7302250) (kk : ∀ (o : OC) (h1 h2 h3 : HC) (t : TC) (g : GC) (P : List PE) (v : MC) (N n rn c0 c2 s2 : Nat), LR o h1 h3 t g P v N n rn c0 → c2 ≤ cells + 2 → s2 ≤ slots + 42 → GL p l e s m below meth c D b 1625 (lvk b B a k) [] ((ow q B o ++ (hw q (B 1) h1 ++ (hw q (B 2) h2 ++ (hw q (B 3) h3 ++ (tw q (B 4) t ++ (sw q (B 5) g)))))) ++ (pw q P ++ mw q a v)) c2 s2) : GL p l e s m below meth c D b 1120 (lvk b B a k) [] ((ow q B o ++ (hw q (B 1) h1 ++ (hw q (B 2) h2 ++ (hw q (B 3) h3 ++ (tw q (B 4) t ++ (sw q (B 5) g)))))) ++ (pw q P ++ mw q a v)) cells slots := by
  refine g_aloadn X.1 dL_law_1120 1 rfl rfl ?_
  refine g_scr X 1 dL_law_1121 dL_law_1122 dL_law_1123 (by decide) dL_law_1124 dL_law_1125 (by omega) ?_
  refine g_scr X 2 dL_law_1126 dL_law_1127 dL_law_1128 (by decide) dL_law_1129 dL_law_1130 (by omega) ?_
  refine g_callLi X.1 (rd_V X.1 (k_X4_prove l D q tt B o h1 h2 h3 t g (m_s v) N (xs (k + 1)) (xs (k + 2)) r.gd r.hr) gL_law_X4_prove rfl rfl rfl 2 ok_X4_prove rfl 0 rfl rfl (rest := []) rfl rfl (Nat.le_of_ble_eq_true rfl) dL_law_1131 ⟨(Nat.le_of_ble_eq_true rfl), (Nat.le_of_ble_eq_true rfl)⟩ ⟨(show cells + _ ≤ 600000 by omega), (show slots + _ ≤ 7302250 by omega)⟩) (fun r1_ u1 h1_ => ?_)
  refine g_asc ?_
  refine g_aloadn X.1 dL_law_1134 2 rfl rfl ?_
  refine g_scr X 1 dL_law_1135 dL_law_1136 dL_law_1137 (by decide) dL_law_1138 dL_law_1139 (by omega) ?_
  refine g_scr X 2 dL_law_1140 dL_law_1141 dL_law_1142 (by decide) dL_law_1143 dL_law_1144 (by omega) ?_
  refine g_callRi X.1 (rd_V X.1 (k_X5_prove l D q tt a v N (xs (k + 1)) (xs (k + 2)) r.gd) gL_law_X5_prove rfl rfl rfl 2 ok_X5_prove rfl 0 rfl rfl (rest := [.int r1_]) rfl rfl (Nat.le_of_ble_eq_true rfl) dL_law_1145 ⟨(Nat.le_of_ble_eq_true rfl), (Nat.le_of_ble_eq_true rfl)⟩ ⟨(show cells + 0 + _ ≤ 600000 by omega), (show slots + 0 + _ ≤ 7302250 by omega)⟩) (fun r2_ u2 h2_ => ?_)
  refine g_asc' ?_
  obtain ⟨e1_, ea_, eb_⟩ := h1_
  obtain ⟨f1_, fa_, fb_⟩ := h2_
  obtain ⟨m_, hm_, em_⟩ := cpv (S := m_s v) (x := xs (k + 1)) (y := xs (k + 2)) r.r1
  have e_ : r1_ = r2_ := e1_.trans f1_.symm
  refine g_icmp_eq X.1 1625 dL_law_1148 rfl (fun _ => ?_) (fun h_ => absurd e_ h_)
  exact kk _ _ _ _ _ _ _ _ _ _ _ _ _ _ ⟨r.gd, r.hr, r.kp, r.kh, r.tl, r.tm, r.n2, r.tu, r.tb, (show u1.2.1 = u2.2.2.2.1 by rw [ea_, fa_, r.ro]), (show u1.2.2 = nI m_ by rw [eb_, r.rc, em_]), (show u2.2.2.2.2 = nI m_ by rw [fb_, r.rm, em_]), hm_, r.gb, r.gn, r.mn, r.c3, r.sg, r.sh, r.sd, r.sp, r.sv⟩ (by omega) (by omega)

set_option maxRecDepth 100000 in
set_option maxHeartbeats 4000000 in
theorem lz_alterRow {B : Nat → Nat → Nat} {a : Nat → Nat} {o : OC} {h1 h2 h3 : HC} {t : TC} {g : GC} {P : List PE} {v : MC} {N n rn c0 k : Nat} (X : Lx p s m meth c D q tt b L xs) (r : LR o h1 h3 t g P v N n rn c0) (hk : k + 5 ≤ L) (hc : cells + 10 ≤ 600000) (hs : slots + 60 ≤ 7302250) (kk : ∀ (o : OC) (h1 h2 h3 : HC) (t : TC) (g : GC) (P : List PE) (v : MC) (N n rn c0 c2 s2 : Nat), LR o h1 h3 t g P v N n rn c0 → c2 ≤ cells + 2 → s2 ≤ slots + 42 → GL p l e s m below meth c D b 1625 (lvk b B a k) [] ((ow q B o ++ (hw q (B 1) h1 ++ (hw q (B 2) h2 ++ (hw q (B 3) h3 ++ (tw q (B 4) t ++ (sw q (B 5) g)))))) ++ (pw q P ++ mw q a v)) c2 s2) : GL p l e s m below meth c D b 1186 (lvk b B a k) [] ((ow q B o ++ (hw q (B 1) h1 ++ (hw q (B 2) h2 ++ (hw q (B 3) h3 ++ (tw q (B 4) t ++ (sw q (B 5) g)))))) ++ (pw q P ++ mw q a v)) cells slots := by
  refine g_aloadn X.1 dL_law_1186 1 rfl rfl ?_
  refine g_scr X 1 dL_law_1187 dL_law_1188 dL_law_1189 (by decide) dL_law_1190 dL_law_1191 (by omega) ?_
  refine g_scr X 2 dL_law_1192 dL_law_1193 dL_law_1194 (by decide) dL_law_1195 dL_law_1196 (by omega) ?_
  refine g_scr X 3 dL_law_1197 dL_law_1198 dL_law_1199 (by decide) dL_law_1200 dL_law_1201 (by omega) ?_
  refine g_callLi X.1 (rd_V X.1 (k_X4_alterRow l D q tt B o h1 h2 h3 t g rn (xs (k + 1)) (xs (k + 2)) (xs (k + 3)) r.rc r.r1) gL_law_X4_alterRow rfl rfl rfl 3 ok_X4_alterRow rfl 0 rfl rfl (rest := []) rfl rfl (Nat.le_of_ble_eq_true rfl) dL_law_1202 ⟨(Nat.le_of_ble_eq_true rfl), (Nat.le_of_ble_eq_true rfl)⟩ ⟨(show cells + _ ≤ 600000 by omega), (show slots + _ ≤ 7302250 by omega)⟩) (fun r1_ u1 h1_ => ?_)
  refine g_asc ?_
  refine g_aloadn X.1 dL_law_1205 2 rfl rfl ?_
  refine g_scr X 1 dL_law_1206 dL_law_1207 dL_law_1208 (by decide) dL_law_1209 dL_law_1210 (by omega) ?_
  refine g_scr X 2 dL_law_1211 dL_law_1212 dL_law_1213 (by decide) dL_law_1214 dL_law_1215 (by omega) ?_
  refine g_scr X 3 dL_law_1216 dL_law_1217 dL_law_1218 (by decide) dL_law_1219 dL_law_1220 (by omega) ?_
  refine g_callRi X.1 (rd_V X.1 (k_X5_alterRow l D q tt a v rn (xs (k + 1)) (xs (k + 2)) (xs (k + 3)) r.rm r.r1) gL_law_X5_alterRow rfl rfl rfl 3 ok_X5_alterRow rfl 0 rfl rfl (rest := [.int r1_]) rfl rfl (Nat.le_of_ble_eq_true rfl) dL_law_1221 ⟨(Nat.le_of_ble_eq_true rfl), (Nat.le_of_ble_eq_true rfl)⟩ ⟨(show cells + 0 + _ ≤ 600000 by omega), (show slots + 0 + _ ≤ 7302250 by omega)⟩) (fun r2_ u2 h2_ => ?_)
  refine g_asc' ?_
  have e_ : r1_ = r2_ := h1_.1.trans ((by rw [r.ro] : R_row (o_rows o) rn _ _ = R_row (m_rows v) rn _ _).trans h2_.1.symm)
  refine g_icmp_eq X.1 1625 dL_law_1224 rfl (fun _ => ?_) (fun h_ => absurd e_ h_)
  exact kk _ _ _ _ _ _ _ _ _ _ _ _ _ _ ⟨r.gd, r.hr, r.kp, r.kh, r.tl, r.tm, r.n2, r.tu, r.tb, (show u1 = u2 by rw [h1_.2, h2_.2, r.ro]), r.rc, r.rm, r.r1, r.gb, r.gn, r.mn, r.c3, r.sg, r.sh, r.sd, r.sp, r.sv⟩ (by omega) (by omega)

set_option maxRecDepth 100000 in
set_option maxHeartbeats 4000000 in
theorem lz_keep {B : Nat → Nat → Nat} {a : Nat → Nat} {o : OC} {h1 h2 h3 : HC} {t : TC} {g : GC} {P : List PE} {v : MC} {N n rn c0 k : Nat} (X : Lx p s m meth c D q tt b L xs) (r : LR o h1 h3 t g P v N n rn c0) (hk : k + 5 ≤ L) (hc : cells + 10 ≤ 600000) (hs : slots + 60 ≤ 7302250) (kk : ∀ (o : OC) (h1 h2 h3 : HC) (t : TC) (g : GC) (P : List PE) (v : MC) (N n rn c0 c2 s2 : Nat), LR o h1 h3 t g P v N n rn c0 → c2 ≤ cells + 2 → s2 ≤ slots + 42 → GL p l e s m below meth c D b 1625 (lvk b B a k) [] ((ow q B o ++ (hw q (B 1) h1 ++ (hw q (B 2) h2 ++ (hw q (B 3) h3 ++ (tw q (B 4) t ++ (sw q (B 5) g)))))) ++ (pw q P ++ mw q a v)) c2 s2) : GL p l e s m below meth c D b 1599 (lvk b B a k) [] ((ow q B o ++ (hw q (B 1) h1 ++ (hw q (B 2) h2 ++ (hw q (B 3) h3 ++ (tw q (B 4) t ++ (sw q (B 5) g)))))) ++ (pw q P ++ mw q a v)) cells slots := by
  refine g_aloadn X.1 dL_law_1599 1 rfl rfl ?_
  refine g_callLi X.1 (rd_V X.1 (k_X4_keep l D q tt B o h1 h2 h3 t g) gL_law_X4_keep rfl rfl rfl 0 ok_X4_keep rfl 0 rfl rfl (rest := []) rfl rfl (Nat.le_of_ble_eq_true rfl) dL_law_1600 ⟨(Nat.le_of_ble_eq_true rfl), (Nat.le_of_ble_eq_true rfl)⟩ ⟨(show cells + _ ≤ 600000 by omega), (show slots + _ ≤ 7302250 by omega)⟩) (fun r1_ u1 h1_ => ?_)
  refine g_asc ?_
  refine g_aloadn X.1 dL_law_1603 2 rfl rfl ?_
  refine g_callRi X.1 (rd_V X.1 (k_X5_keep l D q tt a v) gL_law_X5_keep rfl rfl rfl 0 ok_X5_keep rfl 0 rfl rfl (rest := [.int r1_]) rfl rfl (Nat.le_of_ble_eq_true rfl) dL_law_1604 ⟨(Nat.le_of_ble_eq_true rfl), (Nat.le_of_ble_eq_true rfl)⟩ ⟨(show cells + 0 + _ ≤ 600000 by omega), (show slots + 0 + _ ≤ 7302250 by omega)⟩) (fun r2_ u2 h2_ => ?_)
  refine g_asc' ?_
  have e_ : r1_ = r2_ := h1_.1.trans h2_.symm
  refine g_icmp_eq X.1 1625 dL_law_1607 rfl (fun _ => ?_) (fun h_ => absurd e_ h_)
  exact kk _ _ _ _ _ _ _ _ _ _ _ _ _ _ ⟨r.gd, r.hr, rfl, (fun _ => ⟨N, gd_e r.gd cp_e, hrq_e r.gd.le (h1_.2 _ _ r.gd r.hr) cp_e⟩), r.tl, r.tm, r.n2, r.tu, r.tb, r.ro, r.rc, r.rm, r.r1, r.gb, r.gn, r.mn, r.c3, r.sg, r.sh, r.sd, r.sp, r.sv⟩ (by omega) (by omega)
end LAW
