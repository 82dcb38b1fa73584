/-! the law: its switch, its loop -/
set_option maxHeartbeats 4000000 in
set_option maxRecDepth 100000 in
theorem law_sw {X : zX} {B : zB} {b L i : Nat} {xs : Nat → Int32} {M : zM} {N : zN} (o : zOk X B RL cL_law 4 61) (hB : znn B = 95) (hX : zScr X B b L xs) (hL : L ≤ 3072) (hi : i + 6 ≤ L) (h : zS M N) (kk : ∀ (M1 : zM) (N1 : zN), zS M1 N1 → zW X B (zg B M1 N1) 1489 [(3, .int (nI i)), (2, zref B 82), (1, zref B 0), (0, .ref b)] []) : zW X B (zg B M N) 27 [(3, .int (nI i)), (2, zref B 82), (1, zref B 0), (0, .ref b)] [] := by
  refine z_aload_n (j := 3) o dL_law_27 rfl ?_
  refine z_iload_n (j := 0) o dL_law_28 rfl ?_
  refine z_scd (j := i) o hX dL_law_29 (by omega) hL ?_
  refine z_bipush (v := 63) o dL_law_30 (by decide) ?_
  refine z_iand o dL_law_32 ?_
  refine z_tcase 0 (tgt := 208) o dL_law_33 (by decide) (by decide) rfl (by decide) (fun c1 => ?_) (fun c1 => ?_)
  · exact arm_fence o hB hX hL hi h kk
  refine z_tcase 1 (tgt := 241) o dL_law_33 (by decide) (by decide) rfl (by decide) (fun c2 => ?_) (fun c2 => ?_)
  · exact arm_post o hB hX hL hi h kk
  refine z_tcase 2 (tgt := 274) o dL_law_33 (by decide) (by decide) rfl (by decide) (fun c3 => ?_) (fun c3 => ?_)
  · exact arm_fenceIs o hB hX hL hi h kk
  refine z_tcase 3 (tgt := 307) o dL_law_33 (by decide) (by decide) rfl (by decide) (fun c4 => ?_) (fun c4 => ?_)
  · exact arm_at o hB hX hL hi h kk
  refine z_tcase 4 (tgt := 340) o dL_law_33 (by decide) (by decide) rfl (by decide) (fun c5 => ?_) (fun c5 => ?_)
  · exact arm_heads o hB hX hL hi h kk
  refine z_tcase 5 (tgt := 373) o dL_law_33 (by decide) (by decide) rfl (by decide) (fun c6 => ?_) (fun c6 => ?_)
  · exact arm_become o hB hX hL hi h kk
  refine z_tcase 6 (tgt := 406) o dL_law_33 (by decide) (by decide) rfl (by decide) (fun c7 => ?_) (fun c7 => ?_)
  · exact arm_as o hB hX hL hi h kk
  refine z_tcase 7 (tgt := 439) o dL_law_33 (by decide) (by decide) rfl (by decide) (fun c8 => ?_) (fun c8 => ?_)
  · exact arm_turn o hB hX hL hi h kk
  refine z_tcase 8 (tgt := 472) o dL_law_33 (by decide) (by decide) rfl (by decide) (fun c9 => ?_) (fun c9 => ?_)
  · exact arm_cut o hB hX hL hi h kk
  refine z_tcase 9 (tgt := 495) o dL_law_33 (by decide) (by decide) rfl (by decide) (fun c10 => ?_) (fun c10 => ?_)
  · exact arm_lay o hB hX hL hi h kk
  refine z_tcase 10 (tgt := 538) o dL_law_33 (by decide) (by decide) rfl (by decide) (fun c11 => ?_) (fun c11 => ?_)
  · exact arm_cow o hB hX hL hi h kk
  refine z_tcase 11 (tgt := 561) o dL_law_33 (by decide) (by decide) rfl (by decide) (fun c12 => ?_) (fun c12 => ?_)
  · exact arm_cowIs o hB hX hL hi h kk
  refine z_tcase 12 (tgt := 594) o dL_law_33 (by decide) (by decide) rfl (by decide) (fun c13 => ?_) (fun c13 => ?_)
  · exact arm_drive o hB hX hL hi h kk
  refine z_tcase 13 (tgt := 627) o dL_law_33 (by decide) (by decide) rfl (by decide) (fun c14 => ?_) (fun c14 => ?_)
  · exact arm_feed o hB hX hL hi h kk
  refine z_tcase 14 (tgt := 690) o dL_law_33 (by decide) (by decide) rfl (by decide) (fun c15 => ?_) (fun c15 => ?_)
  · exact arm_text o hB hX hL hi h kk
  refine z_tcase 15 (tgt := 713) o dL_law_33 (by decide) (by decide) rfl (by decide) (fun c16 => ?_) (fun c16 => ?_)
  · exact arm_untell o hB hX hL hi h kk
  refine z_tcase 16 (tgt := 736) o dL_law_33 (by decide) (by decide) rfl (by decide) (fun c17 => ?_) (fun c17 => ?_)
  · exact arm_law o hB hX hL hi h kk
  refine z_tcase 17 (tgt := 789) o dL_law_33 (by decide) (by decide) rfl (by decide) (fun c18 => ?_) (fun c18 => ?_)
  · exact arm_dawns o hB hX hL hi h kk
  refine z_tcase 18 (tgt := 812) o dL_law_33 (by decide) (by decide) rfl (by decide) (fun c19 => ?_) (fun c19 => ?_)
  · exact arm_loose o hB hX hL hi h kk
  refine z_tcase 19 (tgt := 835) o dL_law_33 (by decide) (by decide) rfl (by decide) (fun c20 => ?_) (fun c20 => ?_)
  · exact arm_seed o hB hX hL hi h kk
  refine z_tcase 20 (tgt := 858) o dL_law_33 (by decide) (by decide) rfl (by decide) (fun c21 => ?_) (fun c21 => ?_)
  · exact arm_land o hB hX hL hi h kk
  refine z_tcase 21 (tgt := 892) o dL_law_33 (by decide) (by decide) rfl (by decide) (fun c22 => ?_) (fun c22 => ?_)
  · exact arm_then o hB hX hL hi h kk
  refine z_tcase 22 (tgt := 935) o dL_law_33 (by decide) (by decide) rfl (by decide) (fun c23 => ?_) (fun c23 => ?_)
  · exact arm_first o hB hX hL hi h kk
  refine z_tcase 23 (tgt := 968) o dL_law_33 (by decide) (by decide) rfl (by decide) (fun c24 => ?_) (fun c24 => ?_)
  · exact arm_salts o hB hX hL hi h kk
  refine z_tcase 24 (tgt := 1021) o dL_law_33 (by decide) (by decide) rfl (by decide) (fun c25 => ?_) (fun c25 => ?_)
  · exact arm_way o hB hX hL hi h kk
  refine z_tcase 25 (tgt := 1054) o dL_law_33 (by decide) (by decide) rfl (by decide) (fun c26 => ?_) (fun c26 => ?_)
  · exact arm_odds o hB hX hL hi h kk
  refine z_tcase 26 (tgt := 1077) o dL_law_33 (by decide) (by decide) rfl (by decide) (fun c27 => ?_) (fun c27 => ?_)
  · exact arm_fits o hB hX hL hi h kk
  refine z_tcase 27 (tgt := 1110) o dL_law_33 (by decide) (by decide) rfl (by decide) (fun c28 => ?_) (fun c28 => ?_)
  · exact arm_voice o hB hX hL hi h kk
  refine z_tcase 28 (tgt := 1153) o dL_law_33 (by decide) (by decide) rfl (by decide) (fun c29 => ?_) (fun c29 => ?_)
  · exact arm_body o hB hX hL hi h kk
  refine z_tcase 29 (tgt := 1176) o dL_law_33 (by decide) (by decide) rfl (by decide) (fun c30 => ?_) (fun c30 => ?_)
  · exact arm_sheet o hB hX hL hi h kk
  refine z_tcase 30 (tgt := 1219) o dL_law_33 (by decide) (by decide) rfl (by decide) (fun c31 => ?_) (fun c31 => ?_)
  · exact arm_put o hB hX hL hi h kk
  refine z_tcase 31 (tgt := 1262) o dL_law_33 (by decide) (by decide) rfl (by decide) (fun c32 => ?_) (fun c32 => ?_)
  · exact arm_move o hB hX hL hi h kk
  refine z_tcase 32 (tgt := 1325) o dL_law_33 (by decide) (by decide) rfl (by decide) (fun c33 => ?_) (fun c33 => ?_)
  · exact arm_sets o hB hX hL hi h kk
  refine z_tcase 33 (tgt := 1358) o dL_law_33 (by decide) (by decide) rfl (by decide) (fun c34 => ?_) (fun c34 => ?_)
  · exact arm_judge o hB hX hL hi h kk
  refine z_tcase 34 (tgt := 1381) o dL_law_33 (by decide) (by decide) rfl (by decide) (fun c35 => ?_) (fun c35 => ?_)
  · exact arm_image o hB hX hL hi h kk
  refine z_tcase 35 (tgt := 1394) o dL_law_33 (by decide) (by decide) rfl (by decide) (fun c36 => ?_) (fun c36 => ?_)
  · exact arm_restore o hB hX hL hi h kk
  refine z_tcase 36 (tgt := 1407) o dL_law_33 (by decide) (by decide) rfl (by decide) (fun c37 => ?_) (fun c37 => ?_)
  · exact arm_tell o hB hX hL hi h kk
  refine z_tcase 37 (tgt := 1430) o dL_law_33 (by decide) (by decide) rfl (by decide) (fun c38 => ?_) (fun c38 => ?_)
  · exact arm_check o hB hX hL hi h kk
  refine z_tcase 38 (tgt := 1443) o dL_law_33 (by decide) (by decide) rfl (by decide) (fun c39 => ?_) (fun c39 => ?_)
  · exact arm_count o hB hX hL hi h kk
  refine z_tcase 39 (tgt := 1466) o dL_law_33 (by decide) (by decide) rfl (by decide) (fun c40 => ?_) (fun c40 => ?_)
  · exact arm_told o hB hX hL hi h kk
  refine z_tdef (tgt := 1489) o dL_law_33 (by have := lv_neT (a := 0) c1 rfl; have := lv_neT (a := 1) c2 rfl; have := lv_neT (a := 2) c3 rfl; have := lv_neT (a := 3) c4 rfl; have := lv_neT (a := 4) c5 rfl; have := lv_neT (a := 5) c6 rfl; have := lv_neT (a := 6) c7 rfl; have := lv_neT (a := 7) c8 rfl; have := lv_neT (a := 8) c9 rfl; have := lv_neT (a := 9) c10 rfl; have := lv_neT (a := 10) c11 rfl; have := lv_neT (a := 11) c12 rfl; have := lv_neT (a := 12) c13 rfl; have := lv_neT (a := 13) c14 rfl; have := lv_neT (a := 14) c15 rfl; have := lv_neT (a := 15) c16 rfl; have := lv_neT (a := 16) c17 rfl; have := lv_neT (a := 17) c18 rfl; have := lv_neT (a := 18) c19 rfl; have := lv_neT (a := 19) c20 rfl; have := lv_neT (a := 20) c21 rfl; have := lv_neT (a := 21) c22 rfl; have := lv_neT (a := 22) c23 rfl; have := lv_neT (a := 23) c24 rfl; have := lv_neT (a := 24) c25 rfl; have := lv_neT (a := 25) c26 rfl; have := lv_neT (a := 26) c27 rfl; have := lv_neT (a := 27) c28 rfl; have := lv_neT (a := 28) c29 rfl; have := lv_neT (a := 29) c30 rfl; have := lv_neT (a := 30) c31 rfl; have := lv_neT (a := 31) c32 rfl; have := lv_neT (a := 32) c33 rfl; have := lv_neT (a := 33) c34 rfl; have := lv_neT (a := 34) c35 rfl; have := lv_neT (a := 35) c36 rfl; have := lv_neT (a := 36) c37 rfl; have := lv_neT (a := 37) c38 rfl; have := lv_neT (a := 38) c39 rfl; have := lv_neT (a := 39) c40 rfl; omega) (by decide) ?_
  exact kk _ _ h
theorem law_cmp {i L : Nat} (hL : L ≤ 3072) (hi : i ≤ L) (h : ¬ Int32.ofNat L - 6 < nI i) : i + 6 ≤ L := by
  by_cases q : 6 ≤ L
  · have e : Int32.ofNat L - 6 = nI (L - 6) := zn_sub (a := L) (b := 6) rfl rfl q
    rw [e] at h
    rcases Nat.lt_or_ge (L - 6) i with c | c
    · exact absurd (nI_lt c (by omega)) h
    · omega
  · exact absurd ((by decide : ∀ a < 6, ∀ b < 6, Int32.ofNat a - 6 < nI b) L (by omega) i (by omega)) h
set_option maxHeartbeats 4000000 in
theorem law_loop {X : zX} {B : zB} {b L : Nat} {xs : Nat → Int32} (o : zOk X B RL cL_law 4 61) (hB : znn B = 95) (hX : zScr X B b L xs) (hL : L ≤ 3072) (hend : ∀ (M : zM) (N : zN) (i : Nat), zW X B (zg B M N) 1495 [(3, .int (nI i)), (2, zref B 82), (1, zref B 0), (0, .ref b)] []) : ∀ (n i : Nat) (M : zM) (N : zN), L < i + n → i ≤ L → zS M N → zW X B (zg B M N) 18 [(3, .int (nI i)), (2, zref B 82), (1, zref B 0), (0, .ref b)] [] := by
  intro n
  induction n with
  | zero => intro i M N h1 h2; exact absurd h1 (by omega)
  | succ n ih =>
    intro i M N hn hi hs
    refine z_iload_n (j := 0) o dL_law_18 rfl ?_
    refine z_aload_n (j := 3) o dL_law_19 rfl ?_
    refine z_scl o hX dL_law_20 ?_
    refine z_bipush (v := 6) o dL_law_21 (by decide) ?_
    refine z_isub o dL_law_23 ?_
    refine z_icmpgt (tgt := 1495) o dL_law_24 (by decide) (fun c1 => ?_) (fun c1 => ?_)
    · exact hend _ _ _
    · have hi6 : i + 6 ≤ L := law_cmp hL hi c1
      refine law_sw o hB hX hL hi6 hs (fun M1 N1 hs1 => ?_)
      refine z_iinc (j := 0) (v := nI (i + 6)) (lv2 := [(3, .int (nI (i + 6))), (2, zref B 82), (1, zref B 0), (0, .ref b)]) o dL_law_1489 rfl (zn_add rfl (by decide)) (by decide) rfl ?_
      refine z_goto (tgt := 18) o dL_law_1492 (by decide) ?_
      exact ih (i + 6) M1 N1 (by omega) (by omega) hs1
