/-! THE LAW'S LOOP -/
section LAW
variable {p : Program} {l : Launch} {e : Env} {s : State} {m : MethodId} {below : List Frame} {meth : Method} {c : Code} {D : va_G} {q : Nat → ClassId} {tt : Nat → Nat} {b L : Nat} {xs : Nat → Int32}
variable {pc : Nat} {lv : List (Nat × Value)} {st : List Value} {ws : va_W} {cells slots : Nat}

theorem sw_63 (x : Int32) : ∃ m, m < 64 ∧ x &&& 63 = nI m := by
  have h : (x &&& 63).toBitVec.toNat = x.toBitVec.toNat &&& (63 : Int32).toBitVec.toNat := by rw [Int32.toBitVec_and, BitVec.toNat_and]
  have h63 : (63 : Int32).toBitVec.toNat = 63 := by decide
  rw [h63] at h
  have h2 : x.toBitVec.toNat &&& 63 ≤ 63 := Nat.and_le_right
  refine ⟨x.toBitVec.toNat &&& 63, by omega, ?_⟩
  apply Int32.toBitVec_inj.mp
  apply BitVec.eq_of_toNat_eq
  rw [pk_tn (by omega)]
  exact h
theorem k5_in {k N : Nat} (hk : k < 2 ^ 30) (hL : N < 2 ^ 30) (h : ¬ nI N - 5 < nI k) : k + 5 ≤ N := by
  have h2 : nI k ≤ nI N - 5 := Int32.not_lt.mp h
  have h3 := Int32.le_iff_toInt_le.mp h2
  rw [nI_toInt (by omega), show (nI N - 5 : Int32) = nI N - nI 5 from rfl, pk_sub_toInt hL (by omega)] at h3
  omega
set_option maxRecDepth 100000 in
set_option maxHeartbeats 8000000 in
theorem lz_sw {B : Nat → Nat → Nat} {a : Nat → Nat} {o : OC} {h1 h2 h3 : HC} {t : TC} {g : GC} {P : List PE} {v : MC} {N n rn c0 k : Nat} {mm : Nat} (X : Lx p s m meth c D q tt b L xs) (r : LR o h1 h3 t g P v N n rn c0) (hk : k + 5 ≤ L) (hc : cells + 10 ≤ 600000) (hs : slots + 60 ≤ 7302250) (h64 : mm < 64) (kk : ∀ (o : OC) (h1 h2 h3 : HC) (t : TC) (g : GC) (P : List PE) (v : MC) (N n rn c0 c2 s2 : Nat), LR o h1 h3 t g P v N n rn c0 → c2 ≤ cells + 2 → s2 ≤ slots + 42 → GL p l e s m below meth c D b 1625 (lvk b B a k) [] ((ow q B o ++ (hw q (B 1) h1 ++ (hw q (B 2) h2 ++ (hw q (B 3) h3 ++ (tw q (B 4) t ++ (sw q (B 5) g)))))) ++ (pw q P ++ mw q a v)) c2 s2) : GL p l e s m below meth c D b 32 (lvk b B a k) [.int (nI mm)] ((ow q B o ++ (hw q (B 1) h1 ++ (hw q (B 2) h2 ++ (hw q (B 3) h3 ++ (tw q (B 4) t ++ (sw q (B 5) g)))))) ++ (pw q P ++ mw q a v)) cells slots := by
  rcases Nat.eq_or_lt_of_le (show 0 ≤ mm from Nat.zero_le mm) with e_ | hh1_
  · subst e_
    refine g_tin X.1 (off := 196) 228 dL_law_32 (by decide +kernel) (by decide +kernel) (by decide +kernel) rfl ?_
    exact lz_feed X r hk hc hs kk
  rcases Nat.eq_or_lt_of_le (show 1 ≤ mm from hh1_) with e_ | hh2_
  · subst e_
    refine g_tin X.1 (off := 259) 291 dL_law_32 (by decide +kernel) (by decide +kernel) (by decide +kernel) rfl ?_
    exact lz_opera X r hk hc hs kk
  rcases Nat.eq_or_lt_of_le (show 2 ≤ mm from hh2_) with e_ | hh3_
  · subst e_
    refine g_tin X.1 (off := 272) 304 dL_law_32 (by decide +kernel) (by decide +kernel) (by decide +kernel) rfl ?_
    exact lz_set X r hk hc hs kk
  rcases Nat.eq_or_lt_of_le (show 3 ≤ mm from hh3_) with e_ | hh4_
  · subst e_
    refine g_tin X.1 (off := 305) 337 dL_law_32 (by decide +kernel) (by decide +kernel) (by decide +kernel) rfl ?_
    exact lz_lawOf X r hk hc hs kk
  rcases Nat.eq_or_lt_of_le (show 4 ≤ mm from hh4_) with e_ | hh5_
  · subst e_
    refine g_tin X.1 (off := 328) 360 dL_law_32 (by decide +kernel) (by decide +kernel) (by decide +kernel) rfl ?_
    exact lz_person X r hk hc hs kk
  rcases Nat.eq_or_lt_of_le (show 5 ≤ mm from hh5_) with e_ | hh6_
  · subst e_
    refine g_tin X.1 (off := 381) 413 dL_law_32 (by decide +kernel) (by decide +kernel) (by decide +kernel) rfl ?_
    exact lz_of X r hk hc hs kk
  rcases Nat.eq_or_lt_of_le (show 6 ≤ mm from hh6_) with e_ | hh7_
  · subst e_
    refine g_tin X.1 (off := 414) 446 dL_law_32 (by decide +kernel) (by decide +kernel) (by decide +kernel) rfl ?_
    exact lz_does X r hk hc hs kk
  rcases Nat.eq_or_lt_of_le (show 7 ≤ mm from hh7_) with e_ | hh8_
  · subst e_
    refine g_tin X.1 (off := 447) 479 dL_law_32 (by decide +kernel) (by decide +kernel) (by decide +kernel) rfl ?_
    exact lz_mind X r hk hc hs kk
  rcases Nat.eq_or_lt_of_le (show 8 ≤ mm from hh8_) with e_ | hh9_
  · subst e_
    refine g_tin X.1 (off := 490) 522 dL_law_32 (by decide +kernel) (by decide +kernel) (by decide +kernel) rfl ?_
    exact lz_pride X r hk hc hs kk
  rcases Nat.eq_or_lt_of_le (show 9 ≤ mm from hh9_) with e_ | hh10_
  · subst e_
    refine g_tin X.1 (off := 523) 555 dL_law_32 (by decide +kernel) (by decide +kernel) (by decide +kernel) rfl ?_
    exact lz_move X r hk hc hs kk
  rcases Nat.eq_or_lt_of_le (show 10 ≤ mm from hh10_) with e_ | hh11_
  · subst e_
    refine g_tin X.1 (off := 556) 588 dL_law_32 (by decide +kernel) (by decide +kernel) (by decide +kernel) rfl ?_
    exact lz_clap X r hk hc hs kk
  rcases Nat.eq_or_lt_of_le (show 11 ≤ mm from hh11_) with e_ | hh12_
  · subst e_
    refine g_tin X.1 (off := 589) 621 dL_law_32 (by decide +kernel) (by decide +kernel) (by decide +kernel) rfl ?_
    exact lz_room X r hk hc hs kk
  rcases Nat.eq_or_lt_of_le (show 12 ≤ mm from hh12_) with e_ | hh13_
  · subst e_
    refine g_tin X.1 (off := 622) 654 dL_law_32 (by decide +kernel) (by decide +kernel) (by decide +kernel) rfl ?_
    exact lz_minutes X r hk hc hs kk
  rcases Nat.eq_or_lt_of_le (show 13 ≤ mm from hh13_) with e_ | hh14_
  · subst e_
    refine g_tin X.1 (off := 645) 677 dL_law_32 (by decide +kernel) (by decide +kernel) (by decide +kernel) rfl ?_
    exact lz_seed X r hk hc hs kk
  rcases Nat.eq_or_lt_of_le (show 14 ≤ mm from hh14_) with e_ | hh15_
  · subst e_
    refine g_tin X.1 (off := 668) 700 dL_law_32 (by decide +kernel) (by decide +kernel) (by decide +kernel) rfl ?_
    exact lz_minute X r hk hc hs kk
  rcases Nat.eq_or_lt_of_le (show 15 ≤ mm from hh15_) with e_ | hh16_
  · subst e_
    refine g_tin X.1 (off := 681) 713 dL_law_32 (by decide +kernel) (by decide +kernel) (by decide +kernel) rfl ?_
    exact lz_stir X r hk hc hs kk
  rcases Nat.eq_or_lt_of_le (show 16 ≤ mm from hh16_) with e_ | hh17_
  · subst e_
    refine g_tin X.1 (off := 704) 736 dL_law_32 (by decide +kernel) (by decide +kernel) (by decide +kernel) rfl ?_
    exact lz_state X r hk hc hs kk
  rcases Nat.eq_or_lt_of_le (show 17 ≤ mm from hh17_) with e_ | hh18_
  · subst e_
    refine g_tin X.1 (off := 727) 759 dL_law_32 (by decide +kernel) (by decide +kernel) (by decide +kernel) rfl ?_
    exact lz_clapping X r hk hc hs kk
  rcases Nat.eq_or_lt_of_le (show 18 ≤ mm from hh18_) with e_ | hh19_
  · subst e_
    refine g_tin X.1 (off := 750) 782 dL_law_32 (by decide +kernel) (by decide +kernel) (by decide +kernel) rfl ?_
    exact lz_joins X r hk hc hs kk
  rcases Nat.eq_or_lt_of_le (show 19 ≤ mm from hh19_) with e_ | hh20_
  · subst e_
    refine g_tin X.1 (off := 773) 805 dL_law_32 (by decide +kernel) (by decide +kernel) (by decide +kernel) rfl ?_
    exact lz_all X r hk hc hs kk
  rcases Nat.eq_or_lt_of_le (show 20 ≤ mm from hh20_) with e_ | hh21_
  · subst e_
    refine g_tin X.1 (off := 786) 818 dL_law_32 (by decide +kernel) (by decide +kernel) (by decide +kernel) rfl ?_
    exact lz_hush X r hk hc hs kk
  rcases Nat.eq_or_lt_of_le (show 21 ≤ mm from hh21_) with e_ | hh22_
  · subst e_
    refine g_tin X.1 (off := 799) 831 dL_law_32 (by decide +kernel) (by decide +kernel) (by decide +kernel) rfl ?_
    exact lz_roomFor X r hk hc hs kk
  rcases Nat.eq_or_lt_of_le (show 22 ≤ mm from hh22_) with e_ | hh23_
  · subst e_
    refine g_tin X.1 (off := 832) 864 dL_law_32 (by decide +kernel) (by decide +kernel) (by decide +kernel) rfl ?_
    exact lz_kindFor X r hk hc hs kk
  rcases Nat.eq_or_lt_of_le (show 23 ≤ mm from hh23_) with e_ | hh24_
  · subst e_
    refine g_tin X.1 (off := 865) 897 dL_law_32 (by decide +kernel) (by decide +kernel) (by decide +kernel) rfl ?_
    exact lz_earFor X r hk hc hs kk
  rcases Nat.eq_or_lt_of_le (show 24 ≤ mm from hh24_) with e_ | hh25_
  · subst e_
    refine g_tin X.1 (off := 898) 930 dL_law_32 (by decide +kernel) (by decide +kernel) (by decide +kernel) rfl ?_
    exact lz_begunFor X r hk hc hs kk
  rcases Nat.eq_or_lt_of_le (show 25 ≤ mm from hh25_) with e_ | hh26_
  · subst e_
    refine g_tin X.1 (off := 931) 963 dL_law_32 (by decide +kernel) (by decide +kernel) (by decide +kernel) rfl ?_
    exact lz_hiredFor X r hk hc hs kk
  rcases Nat.eq_or_lt_of_le (show 26 ≤ mm from hh26_) with e_ | hh27_
  · subst e_
    refine g_tin X.1 (off := 954) 986 dL_law_32 (by decide +kernel) (by decide +kernel) (by decide +kernel) rfl ?_
    exact lz_round X r hk hc hs kk
  rcases Nat.eq_or_lt_of_le (show 27 ≤ mm from hh27_) with e_ | hh28_
  · subst e_
    refine g_tin X.1 (off := 967) 999 dL_law_32 (by decide +kernel) (by decide +kernel) (by decide +kernel) rfl ?_
    exact lz_fits X r hk hc hs kk
  rcases Nat.eq_or_lt_of_le (show 28 ≤ mm from hh28_) with e_ | hh29_
  · subst e_
    refine g_tin X.1 (off := 1010) 1042 dL_law_32 (by decide +kernel) (by decide +kernel) (by decide +kernel) rfl ?_
    exact lz_odds X r hk hc hs kk
  rcases Nat.eq_or_lt_of_le (show 29 ≤ mm from hh29_) with e_ | hh30_
  · subst e_
    refine g_tin X.1 (off := 1054) 1086 dL_law_32 (by decide +kernel) (by decide +kernel) (by decide +kernel) rfl ?_
    exact lz_hope X r hk hc hs kk
  rcases Nat.eq_or_lt_of_le (show 30 ≤ mm from hh30_) with e_ | hh31_
  · subst e_
    refine g_tin X.1 (off := 1088) 1120 dL_law_32 (by decide +kernel) (by decide +kernel) (by decide +kernel) rfl ?_
    exact lz_prove X r hk hc hs kk
  rcases Nat.eq_or_lt_of_le (show 31 ≤ mm from hh31_) with e_ | hh32_
  · subst e_
    refine g_tin X.1 (off := 1121) 1153 dL_law_32 (by decide +kernel) (by decide +kernel) (by decide +kernel) rfl ?_
    exact lz_row X r hk hc hs kk
  rcases Nat.eq_or_lt_of_le (show 32 ≤ mm from hh32_) with e_ | hh33_
  · subst e_
    refine g_tin X.1 (off := 1154) 1186 dL_law_32 (by decide +kernel) (by decide +kernel) (by decide +kernel) rfl ?_
    exact lz_alterRow X r hk hc hs kk
  rcases Nat.eq_or_lt_of_le (show 33 ≤ mm from hh33_) with e_ | hh34_
  · subst e_
    refine g_tin X.1 (off := 1197) 1229 dL_law_32 (by decide +kernel) (by decide +kernel) (by decide +kernel) rfl ?_
    exact lz_judge X r hk hc hs kk
  rcases Nat.eq_or_lt_of_le (show 34 ≤ mm from hh34_) with e_ | hh35_
  · subst e_
    refine g_tin X.1 (off := 1220) 1252 dL_law_32 (by decide +kernel) (by decide +kernel) (by decide +kernel) rfl ?_
    exact lz_minds X r hk hc hs kk
  rcases Nat.eq_or_lt_of_le (show 35 ≤ mm from hh35_) with e_ | hh36_
  · subst e_
    refine g_tin X.1 (off := 1273) 1305 dL_law_32 (by decide +kernel) (by decide +kernel) (by decide +kernel) rfl ?_
    exact lz_sheet X r hk hc hs kk
  rcases Nat.eq_or_lt_of_le (show 36 ≤ mm from hh36_) with e_ | hh37_
  · subst e_
    refine g_tin X.1 (off := 1316) 1348 dL_law_32 (by decide +kernel) (by decide +kernel) (by decide +kernel) rfl ?_
    exact lz_put X r hk hc hs kk
  rcases Nat.eq_or_lt_of_le (show 37 ≤ mm from hh37_) with e_ | hh38_
  · subst e_
    refine g_tin X.1 (off := 1359) 1391 dL_law_32 (by decide +kernel) (by decide +kernel) (by decide +kernel) rfl ?_
    exact lz_item X r hk hc hs kk
  rcases Nat.eq_or_lt_of_le (show 38 ≤ mm from hh38_) with e_ | hh39_
  · subst e_
    refine g_tin X.1 (off := 1402) 1434 dL_law_32 (by decide +kernel) (by decide +kernel) (by decide +kernel) rfl ?_
    exact lz_shelf X r hk hc hs kk
  rcases Nat.eq_or_lt_of_le (show 39 ≤ mm from hh39_) with e_ | hh40_
  · subst e_
    refine g_tin X.1 (off := 1445) 1477 dL_law_32 (by decide +kernel) (by decide +kernel) (by decide +kernel) rfl ?_
    exact lz_taken X r hk hc hs kk
  rcases Nat.eq_or_lt_of_le (show 40 ≤ mm from hh40_) with e_ | hh41_
  · subst e_
    refine g_tin X.1 (off := 1478) 1510 dL_law_32 (by decide +kernel) (by decide +kernel) (by decide +kernel) rfl ?_
    exact lz_act X r hk hc hs kk
  rcases Nat.eq_or_lt_of_le (show 41 ≤ mm from hh41_) with e_ | hh42_
  · subst e_
    refine g_tin X.1 (off := 1521) 1553 dL_law_32 (by decide +kernel) (by decide +kernel) (by decide +kernel) rfl ?_
    exact lz_trace X r hk hc hs kk
  rcases Nat.eq_or_lt_of_le (show 42 ≤ mm from hh42_) with e_ | hh43_
  · subst e_
    refine g_tin X.1 (off := 1544) 1576 dL_law_32 (by decide +kernel) (by decide +kernel) (by decide +kernel) rfl ?_
    exact lz_many X r hk hc hs kk
  rcases Nat.eq_or_lt_of_le (show 43 ≤ mm from hh43_) with e_ | hh44_
  · subst e_
    refine g_tin X.1 (off := 1567) 1599 dL_law_32 (by decide +kernel) (by decide +kernel) (by decide +kernel) rfl ?_
    exact lz_keep X r hk hc hs kk
  rcases Nat.eq_or_lt_of_le (show 44 ≤ mm from hh44_) with e_ | hh45_
  · subst e_
    refine g_tin X.1 (off := 1580) 1612 dL_law_32 (by decide +kernel) (by decide +kernel) (by decide +kernel) rfl ?_
    exact lz_again X r hk hc hs kk
  refine g_tout X.1 1625 dL_law_32 (Or.inr (by rw [nI_toInt (by omega)]; omega)) rfl ?_
  exact kk _ _ _ _ _ _ _ _ _ _ _ _ _ _ r (by omega) (by omega)
set_option maxRecDepth 100000 in
set_option maxHeartbeats 4000000 in
theorem lz_loop (hret : meth.sig.returnType = ret) {B : Nat → Nat → Nat} {a : Nat → Nat} (X : Lx p s m meth c D q tt b L xs) : ∀ (d_ k : Nat) (o : OC) (h1 h2 h3 : HC) (t : TC) (g : GC) (P : List PE) (v : MC) (N n rn c0 cells slots : Nat), L - k < d_ → k ≤ L → LR o h1 h3 t g P v N n rn c0 → cells ≤ 60 + k → slots ≤ 1500 + 9 * k → GL p l e s m below meth c D b 18 (lvk b B a k) [] ((ow q B o ++ (hw q (B 1) h1 ++ (hw q (B 2) h2 ++ (hw q (B 3) h3 ++ (tw q (B 4) t ++ (sw q (B 5) g)))))) ++ (pw q P ++ mw q a v)) cells slots := by
  have hL : L ≤ 2560 := X.2.2.2
  intro d_
  induction d_ with
  | zero =>
    intro k o h1 h2 h3 t g P v N n rn c0 cells slots hd
    exact absurd hd (Nat.not_lt_zero _)
  | succ d_ ih =>
    intro k o h1 h2 h3 t g P v N n rn c0 cells slots hd hk r hc hs
    refine g_iloadn X.1 dL_law_18 3 rfl rfl ?_
    refine g_aloadn X.1 dL_law_19 0 rfl rfl ?_
    refine g_slenS X dL_law_20 ?_
    refine g_iconst X.1 5 dL_law_21 (by decide) ?_
    refine g_isub X.1 dL_law_22 ?_
    refine g_icmp_gt X.1 1631 dL_law_23 rfl (fun _ => ?_) (fun hg_ => ?_)
    · refine g_iconst X.1 1 dL_law_1631 (by decide) ?_
      exact g_end X hret dL_law_1632 (by omega) (by omega)
    · have hk5 : k + 5 ≤ L := k5_in (by omega) (by omega) hg_
      refine g_aloadn X.1 dL_law_26 0 rfl rfl ?_
      refine g_iloadn X.1 dL_law_27 3 rfl rfl ?_
      refine g_sld X k rfl (by omega) dL_law_28 ?_
      refine g_bipush X.1 63 dL_law_29 (by decide) ?_
      refine g_iand X.1 dL_law_31 ?_
      obtain ⟨mm, h64, em⟩ := sw_63 (xs k)
      refine g_topci (nI mm) em ?_
      refine lz_sw X r hk5 (by omega) (by omega) h64 (fun o2_ h12_ h22_ h32_ t2_ g2_ P2_ v2_ N2_ n2_ rn2_ c02_ c2_ s2_ r2_ hc2_ hs2_ => ?_)
      refine g_iinc X.1 (nI (k + 5)) [(3, .int (nI (k + 5))), (0, .ref b), (1, .ref (B 0 0)), (2, .ref (a 0))] dL_law_1625 3 rfl (by rw [show Int32.ofInt 5 = nI 5 by decide]; exact nI_add k 5) (by decide) rfl ?_
      refine g_goto X.1 18 dL_law_1628 rfl ?_
      refine g_sub [1, 2, 3, 0] (lv' := lvk b B a (k + 5)) rfl ?_
      exact ih (k + 5) o2_ h12_ h22_ h32_ t2_ g2_ P2_ v2_ N2_ n2_ rn2_ c02_ c2_ s2_ (by omega) hk5 r2_ (by omega) (by omega)
end LAW
