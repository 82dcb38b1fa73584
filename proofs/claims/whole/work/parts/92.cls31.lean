/-! the class: its calls (5) -/
theorem cnt_bits {x : Int64} {ρ : Nat → Int32} {a : Nat} (h : zBits x ρ a) (h1 : ∀ c, c < 64 → zle (ρ (a + c)) 1) : nI (lpop x) = sp_cnt ρ a 64 := by
  have key : ∀ n, n ≤ 64 → nI (fb_ct (lbit x) n) = sp_cnt ρ a n := by
    intro n
    induction n with
    | zero => intro _; rfl
    | succ n ih =>
      intro hn
      rw [fb_ct_succ, ← nI_add, ih (by omega)]
      show _ = sp_cnt ρ a n + ρ (a + n)
      rw [h n (by omega)]
      obtain ⟨v9, hv, e⟩ := h1 n (by omega)
      rw [e]
      rcases (show v9 = 0 ∨ v9 = 1 by omega) with rfl | rfl
      · rw [decide_eq_false (by decide)]; rfl
      · rw [decide_eq_true (by decide)]; rfl
  exact key 64 (Nat.le_refl _)
theorem ok_bits {ρ : Nat → Int32} (hok : zOkR ρ) {a : Nat} (ha : a = 70 ∨ a = 134) : ∀ c, c < 64 → zle (ρ (a + c)) 1 := fun c hc => by
  rcases ha with rfl | rfl
  · exact hok _ _ (zbd_s (i := c) (by omega))
  · have := zbd_s (i := 64 + c) (by omega)
    rw [← Nat.add_assoc] at this
    exact hok _ _ this
theorem zRl.img {M M1 : zM} {N N1 : zN} {A : zM} {v : Int32} (h : zRl M N A) (hm : zFr 23 M M1) (hn : zFrN 23 N N1) (hg : zRg 23 M1 N1 (A 83)) : zRl (zu M1 0 7 v) N1 (zu (va_up A 84 (A 83)) 82 3 v) := by
  obtain ⟨a, b, c, d, e, f, g⟩ := h
  have h0 : ∀ j, j ≠ 0 → zu M1 0 7 v j = M1 j := fun j hj => zu_ne hj
  have h1 : ∀ j, j ≠ 0 → j < 23 ∨ 45 ≤ j → zu M1 0 7 v j = M j := fun j q w => (h0 j q).trans (hm j (by omega))
  have hA : ∀ j, j ≠ 82 → j ≠ 84 → zu (va_up A 84 (A 83)) 82 3 v j = A j := fun j q w => by rw [zu_ne q, va_up_ne _ _ w]
  refine ⟨?_, fun _ => ?_, fun u hu => ?_, fun j hj => ?_, ?_, ⟨?_, fun j hj => ?_⟩, fun s hs => ?_⟩
  · rw [hA 83 (by decide) (by decide)]; exact a.fr (fun j _ _ => h1 j (by omega) (by omega)) (fun j _ _ => hn j (by omega))
  · rw [zu_ne (by decide), va_up_self]; exact hg.fr (fun j _ _ => h0 j (by omega)) (fun _ _ _ => rfl)
  · rw [h0 _ (by omega), h1 _ (by omega) (by omega)]
    refine ⟨?_, (c u hu).2⟩
    have := (hg.2.2.2.2.2.2.2 u hu).1
    rw [show 39 + 3 * u = 23 + 16 + 3 * u by omega]; exact this
  · rw [h1 _ (by omega) (by omega), hA _ (by decide) (by decide)]; exact d j hj
  · rw [zu_at, upd_self, zu_at, upd_self]
  · rw [h1 _ (by omega) (by omega), zu_at, upd_ne (by decide), va_up_ne _ _ (by decide)]; exact f.1
  · rw [h1 _ (by omega) (by omega), hA _ (by decide) (by decide)]; exact f.2 j hj
  · rw [h1 _ (by omega) (by omega), h1 _ (by omega) (by omega), hA _ (by decide) (by decide), hA _ (by decide) (by decide), hA _ (by decide) (by decide)]; exact g s hs
set_option maxHeartbeats 4000000 in
set_option maxRecDepth 100000 in
theorem k_fenceIs {B : zB} (hB : znn B = 95) (M : zM) (N : zN) (A : zM) (f : Int32) (w : Int32) (hR : zRl M N A) (hok : zOkAll (A 83)) : zCi B (zg B M N) yX7_fenceIs cX7_fenceIs 4 (some .int) 5 [zref B 0, .int f, .int w] (fun r g' => ∃ (M1 : zM) (N1 : zN), g' = zg B M1 N1 ∧ r = (sq_fenceIs A f w).1 ∧ zRl M1 N1 (sq_fenceIs A f w).2 ∧ zHi M M1) := by
  refine zCi_of (by decide +kernel) (Nat.le_of_ble_eq_true rfl) .int rfl (fun _ _ _ => rfl) ?_
  intro X o kret
  show zW X B (zg B M N) 0 [(0, zref B 0), (1, .int f), (2, .int w)] []
  obtain ⟨hnf, hnf4⟩ := ok_nf2 hok.1
  obtain ⟨hnc, hnc6⟩ := ok_nc2 hok.1
  obtain ⟨hnt, hnt60⟩ := ok_nt2 hok.1
  obtain ⟨hnw, hnw24⟩ := ok_nw2 hok.1
  have hF : ∀ i, i < 4 → zFn (9 + 2 * i) M (A 83) i := fun i hi => hR.1.2.1 i hi
  refine z_aload_n (j := 0) o dX7_fenceIs_0 rfl ?_
  refine z_iload_n (j := 1) o dX7_fenceIs_1 rfl ?_
  refine z_callVi (As := [.int f]) (n := 1) (st := []) o dX7_fenceIs_2 (c_X7_isFence hB M N A f hR hok.1) zc_X7_72 (by decide) (i := 0) (by rw [hB]; exact zsh_lt rfl (by decide)) (zg_o rfl (by decide)) rfl rfl rfl (Nat.le_of_ble_eq_true rfl) (fun r1 g2 p3 => ?_)
  obtain ⟨rfl, rfl⟩ := p3
  refine z_ifne (tgt := 14) o dX7_fenceIs_5 (by decide) (fun c4 => ?_) (fun c4 => ?_)
  · have hzf := c4
    rw [hnf] at hzf
    obtain ⟨fa, hfa, efa⟩ := zin_nat (by omega) hzf
    subst efa
    obtain ⟨hnpfa, hnp8⟩ := ok_np2 hok.1 (i := fa) (by omega)
    refine z_aload_n (j := 0) o dX7_fenceIs_14 rfl ?_
    refine zo_get (i := 0) o hB dX7_fenceIs_15 zf_X7_10 rfl (by decide) (rfl) ?_
    refine zo_get (i := 1) o hB dX7_fenceIs_18 zf_X7_62 rfl (by decide) (rfl) ?_
    refine z_iload_n (j := 1) o dX7_fenceIs_21 rfl ?_
    refine zo_aldF (i := 2) (j := fa) o hB dX7_fenceIs_22 rfl (show fa < 4 by omega) (by decide) ?_
    refine z_astore_n (i := 3) (lv2 := [(3, zref B (9 + 2 * fa)), (0, zref B 0), (1, .int (nI fa)), (2, .int w)]) o dX7_fenceIs_23 rfl (by decide) rfl ?_
    refine z_iload_n (j := 3) o dX7_fenceIs_24 rfl ?_
    refine z_tcase 0 (tgt := 68) o dX7_fenceIs_25 (by decide) (by decide) rfl (by decide) (fun c5 => ?_) (fun c5 => ?_)
    · obtain rfl : w = 0 := c5
      refine z_aload_n (j := 0) o dX7_fenceIs_68 rfl ?_
      refine zo_get (i := 9 + 2 * fa) o hB dX7_fenceIs_69 zf_X7_86 ((zh_R (r := 1) rfl).2.2.2.2.2.2.2.1 fa (by omega)) (by decide) (rfl) ?_
      refine zo_rw (y := A 83 (6 + 13 * fa + 0)) ((hF fa (by omega)).2.1) ?_
      have hS : sq_fenceIs A (nI fa) 0 = ((A 83 (6 + 13 * fa + 0)), A) := by
        unfold sq_fenceIs; (try rw [zn_nI (n := fa) (by omega)]); rw [if_neg c4, if_neg (show ¬ zin (0 : Int32) 0 6 = 0 by decide), if_pos (show (0 : Int32) < 5 by decide)] <;> (try rfl)
      exact kret _ _ _ _ dX7_fenceIs_72 ⟨M, N, rfl, by rw [hS], by rw [hS]; exact hR, (zHi.rf (M := M))⟩
    refine z_tcase 1 (tgt := 73) o dX7_fenceIs_25 (by decide) (by decide) rfl (by decide) (fun c6 => ?_) (fun c6 => ?_)
    · obtain rfl : w = 1 := c6
      refine z_aload_n (j := 0) o dX7_fenceIs_73 rfl ?_
      refine zo_get (i := 9 + 2 * fa) o hB dX7_fenceIs_74 zf_X7_89 ((zh_R (r := 1) rfl).2.2.2.2.2.2.2.1 fa (by omega)) (by decide) (rfl) ?_
      refine zo_rw (y := A 83 (6 + 13 * fa + 1)) ((hF fa (by omega)).2.2.1) ?_
      have hS : sq_fenceIs A (nI fa) 1 = ((A 83 (6 + 13 * fa + 1)), A) := by
        unfold sq_fenceIs; (try rw [zn_nI (n := fa) (by omega)]); rw [if_neg c4, if_neg (show ¬ zin (1 : Int32) 0 6 = 0 by decide), if_pos (show (1 : Int32) < 5 by decide)] <;> (try rfl)
      exact kret _ _ _ _ dX7_fenceIs_77 ⟨M, N, rfl, by rw [hS], by rw [hS]; exact hR, (zHi.rf (M := M))⟩
    refine z_tcase 2 (tgt := 78) o dX7_fenceIs_25 (by decide) (by decide) rfl (by decide) (fun c7 => ?_) (fun c7 => ?_)
    · obtain rfl : w = 2 := c7
      refine z_aload_n (j := 0) o dX7_fenceIs_78 rfl ?_
      refine zo_get (i := 9 + 2 * fa) o hB dX7_fenceIs_79 zf_X7_92 ((zh_R (r := 1) rfl).2.2.2.2.2.2.2.1 fa (by omega)) (by decide) (rfl) ?_
      refine zo_rw (y := A 83 (6 + 13 * fa + 2)) ((hF fa (by omega)).2.2.2.1) ?_
      have hS : sq_fenceIs A (nI fa) 2 = ((A 83 (6 + 13 * fa + 2)), A) := by
        unfold sq_fenceIs; (try rw [zn_nI (n := fa) (by omega)]); rw [if_neg c4, if_neg (show ¬ zin (2 : Int32) 0 6 = 0 by decide), if_pos (show (2 : Int32) < 5 by decide)] <;> (try rfl)
      exact kret _ _ _ _ dX7_fenceIs_82 ⟨M, N, rfl, by rw [hS], by rw [hS]; exact hR, (zHi.rf (M := M))⟩
    refine z_tcase 3 (tgt := 83) o dX7_fenceIs_25 (by decide) (by decide) rfl (by decide) (fun c8 => ?_) (fun c8 => ?_)
    · obtain rfl : w = 3 := c8
      refine z_aload_n (j := 0) o dX7_fenceIs_83 rfl ?_
      refine zo_get (i := 9 + 2 * fa) o hB dX7_fenceIs_84 zf_X7_80 ((zh_R (r := 1) rfl).2.2.2.2.2.2.2.1 fa (by omega)) (by decide) (rfl) ?_
      refine zo_rw (y := nI (sp_np (A 83) fa)) ((hF fa (by omega)).1.trans hnpfa) ?_
      refine zo_rw (y := A 83 (6 + 13 * fa + 3)) hnpfa.symm ?_
      have hS : sq_fenceIs A (nI fa) 3 = ((A 83 (6 + 13 * fa + 3)), A) := by
        unfold sq_fenceIs; (try rw [zn_nI (n := fa) (by omega)]); rw [if_neg c4, if_neg (show ¬ zin (3 : Int32) 0 6 = 0 by decide), if_pos (show (3 : Int32) < 5 by decide)] <;> (try rfl)
      exact kret _ _ _ _ dX7_fenceIs_87 ⟨M, N, rfl, by rw [hS], by rw [hS]; exact hR, (zHi.rf (M := M))⟩
    refine z_tcase 4 (tgt := 88) o dX7_fenceIs_25 (by decide) (by decide) rfl (by decide) (fun c9 => ?_) (fun c9 => ?_)
    · obtain rfl : w = 4 := c9
      refine z_aload_n (j := 0) o dX7_fenceIs_88 rfl ?_
      refine zo_get (i := 9 + 2 * fa) o hB dX7_fenceIs_89 zf_X7_95 ((zh_R (r := 1) rfl).2.2.2.2.2.2.2.1 fa (by omega)) (by decide) (rfl) ?_
      refine zo_rw (y := A 83 (6 + 13 * fa + 4)) ((hF fa (by omega)).2.2.2.2.1) ?_
      have hS : sq_fenceIs A (nI fa) 4 = ((A 83 (6 + 13 * fa + 4)), A) := by
        unfold sq_fenceIs; (try rw [zn_nI (n := fa) (by omega)]); rw [if_neg c4, if_neg (show ¬ zin (4 : Int32) 0 6 = 0 by decide), if_pos (show (4 : Int32) < 5 by decide)] <;> (try rfl)
      exact kret _ _ _ _ dX7_fenceIs_92 ⟨M, N, rfl, by rw [hS], by rw [hS]; exact hR, (zHi.rf (M := M))⟩
    refine z_tcase 5 (tgt := 93) o dX7_fenceIs_25 (by decide) (by decide) rfl (by decide) (fun c10 => ?_) (fun c10 => ?_)
    · obtain rfl : w = 5 := c10
      refine z_aload_n (j := 0) o dX7_fenceIs_93 rfl ?_
      refine z_callVl (As := []) (n := 0) (st := []) o dX7_fenceIs_94 (c_X0_inside hB M N (9 + 2 * fa) fa (A 83) ((zh_R (r := 1) rfl).2.2.2.2.2.2.2.1 fa (by omega)) (by omega) hok.1 (hF fa (by omega))) zc_X7_98 (by decide) (i := 9 + 2 * fa) (by rw [hB]; exact zsh_lt ((zh_R (r := 1) rfl).2.2.2.2.2.2.2.1 fa (by omega)) (by decide)) (zg_o ((zh_R (r := 1) rfl).2.2.2.2.2.2.2.1 fa (by omega)) (by decide)) rfl rfl rfl (Nat.le_of_ble_eq_true rfl) (fun r11 g12 p13 => ?_)
      obtain ⟨rfl, rfl⟩ := p13
      refine z_callSi (As := [.long (sp_ins (A 83) fa)]) (n := 1) (st := []) o dX7_fenceIs_97 (c_J13_bitCount hB M N (sp_ins (A 83) fa)) zc_X7_102 (by decide) rfl rfl (Nat.le_of_ble_eq_true rfl) (fun r14 g15 p16 => ?_)
      obtain ⟨rfl, rfl⟩ := p16
      have hS : sq_fenceIs A (nI fa) 5 = ((nI (lpop (sp_ins (A 83) fa))), A) := by
        unfold sq_fenceIs; (try rw [zn_nI (n := fa) (by omega)]); rw [if_neg c4, if_neg (show ¬ zin (5 : Int32) 0 6 = 0 by decide), if_neg (show ¬ (5 : Int32) < 5 by decide), if_pos rfl] <;> (try rfl)
      exact kret _ _ _ _ dX7_fenceIs_100 ⟨M, N, rfl, by rw [hS], by rw [hS]; exact hR, (zHi.rf (M := M))⟩
    refine z_tcase 6 (tgt := 101) o dX7_fenceIs_25 (by decide) (by decide) rfl (by decide) (fun c17 => ?_) (fun c17 => ?_)
    · obtain rfl : w = 6 := c17
      refine z_aload_n (j := 1) o dX7_fenceIs_101 rfl ?_
      refine zo_get (i := 0) o hB dX7_fenceIs_102 zf_X7_10 rfl (by decide) (rfl) ?_
      refine z_aload_n (j := 0) o dX7_fenceIs_105 rfl ?_
      refine z_aload_n (j := 0) o dX7_fenceIs_106 rfl ?_
      refine z_callVl (As := []) (n := 0) (st := [zref B (9 + 2 * fa), zref B 1]) o dX7_fenceIs_107 (c_X0_inside hB M N (9 + 2 * fa) fa (A 83) ((zh_R (r := 1) rfl).2.2.2.2.2.2.2.1 fa (by omega)) (by omega) hok.1 (hF fa (by omega))) zc_X7_98 (by decide) (i := 9 + 2 * fa) (by rw [hB]; exact zsh_lt ((zh_R (r := 1) rfl).2.2.2.2.2.2.2.1 fa (by omega)) (by decide)) (zg_o ((zh_R (r := 1) rfl).2.2.2.2.2.2.2.1 fa (by omega)) (by decide)) rfl rfl rfl (Nat.le_of_ble_eq_true rfl) (fun r18 g19 p20 => ?_)
      obtain ⟨rfl, rfl⟩ := p20
      refine z_callVi (As := [zref B (9 + 2 * fa), .long (sp_ins (A 83) fa)]) (n := 2) (st := []) o dX7_fenceIs_110 (c_X3_graze hB M N 1 (9 + 2 * fa) fa (A 83) rfl hok hR.1 ((zh_R (r := 1) rfl).2.2.2.2.2.2.2.1 fa (by omega)) (hF fa (by omega))) zc_X7_108 (by decide) (i := 1) (by rw [hB]; exact zsh_lt rfl (by decide)) (zg_o rfl (by decide)) rfl rfl rfl (Nat.le_of_ble_eq_true rfl) (fun r21 g22 p23 => ?_)
      obtain ⟨P24, rfl, rfl⟩ := p23
      have hRP24 : zRl (va_up M (1 + 16 + 1) P24) N A := hR.sc (hR.1.pile (r := 1) (u := 0) (P := P24) (by omega)) (fun j hj => va_up_ne _ _ (by omega)) (fun _ _ => rfl) (fun u hu => by rw [va_up_ne _ _ (by omega)]; exact (hR.2.2.1 u hu).2)
      have hS : sq_fenceIs A (nI fa) 6 = ((sp_graze (A 83) fa), A) := by
        unfold sq_fenceIs; (try rw [zn_nI (n := fa) (by omega)]); rw [if_neg c4, if_neg (show ¬ zin (6 : Int32) 0 6 = 0 by decide), if_neg (show ¬ (6 : Int32) < 5 by decide), if_neg (show ¬ (6 : Int32) = 5 by decide)] <;> (try rfl)
      exact kret _ _ _ _ dX7_fenceIs_113 ⟨va_up M (1 + 16 + 1) P24, N, rfl, by rw [hS], by rw [hS]; exact hRP24, ((zHi.rf (M := M)).va (i := 1 + 16 + 1) (by omega))⟩
    refine z_tdef (tgt := 114) o dX7_fenceIs_25 (by have := lv_neT (a := 0) c5 rfl; have := lv_neT (a := 1) c6 rfl; have := lv_neT (a := 2) c7 rfl; have := lv_neT (a := 3) c8 rfl; have := lv_neT (a := 4) c9 rfl; have := lv_neT (a := 5) c10 rfl; have := lv_neT (a := 6) c17 rfl; omega) (by decide) ?_
    refine z_aload_n (j := 1) o dX7_fenceIs_114 rfl ?_
    refine z_iconst (v := 1) o dX7_fenceIs_115 (by decide) ?_
    refine z_callVi (As := [.int 1]) (n := 1) (st := []) o dX7_fenceIs_116 (c_X7_error hB M N 1 (by decide) (by decide)) zc_X7_54 (by decide) (i := 0) (by rw [hB]; exact zsh_lt rfl (by decide)) (zg_o rfl (by decide)) rfl rfl rfl (Nat.le_of_ble_eq_true rfl) (fun r25 g26 p27 => ?_)
    obtain ⟨rfl, rfl⟩ := p27
    have hS : sq_fenceIs A (nI fa) w = ((zE 1), zEr A 1) := by
      unfold sq_fenceIs; (try rw [zn_nI (n := fa) (by omega)]); rw [if_neg c4, if_pos (zin_sw (n := 6) rfl (by decide) (fun k hk q => by rcases (show k = 0 ∨ k = 1 ∨ k = 2 ∨ k = 3 ∨ k = 4 ∨ k = 5 ∨ k = 6 by omega) with rfl | rfl | rfl | rfl | rfl | rfl | rfl <;> first | exact c5 q | exact c6 q | exact c7 q | exact c8 q | exact c9 q | exact c10 q | exact c17 q))] <;> (try rfl)
    exact kret _ _ _ _ dX7_fenceIs_119 ⟨zu M 73 1 (M 73 1 + 1), N, rfl, by rw [hS], by rw [hS]; exact (hR).er (k := 1) (by decide), ((zHi.rf (M := M))).zu (by decide)⟩
  · refine z_aload_n (j := 0) o dX7_fenceIs_8 rfl ?_
    refine z_iconst (v := 1) o dX7_fenceIs_9 (by decide) ?_
    refine z_callVi (As := [.int 1]) (n := 1) (st := []) o dX7_fenceIs_10 (c_X7_error hB M N 1 (by decide) (by decide)) zc_X7_54 (by decide) (i := 0) (by rw [hB]; exact zsh_lt rfl (by decide)) (zg_o rfl (by decide)) rfl rfl rfl (Nat.le_of_ble_eq_true rfl) (fun r28 g29 p30 => ?_)
    obtain ⟨rfl, rfl⟩ := p30
    have hS : sq_fenceIs A f w = ((zE 1), zEr A 1) := by
      unfold sq_fenceIs;  rw [if_pos c4] <;> (try rfl)
    exact kret _ _ _ _ dX7_fenceIs_13 ⟨zu M 73 1 (M 73 1 + 1), N, rfl, by rw [hS], by rw [hS]; exact (hR).er (k := 1) (by decide), ((zHi.rf (M := M))).zu (by decide)⟩

set_option maxHeartbeats 4000000 in
set_option maxRecDepth 100000 in
theorem k_told {B : zB} (hB : znn B = 95) (M : zM) (N : zN) (A : zM) (k : Int32) (hR : zRl M N A) (hok : zOkAll (A 83)) : zCi B (zg B M N) yX7_told cX7_told 2 (some .int) 1 [zref B 0, .int k] (fun r g' => ∃ (M1 : zM) (N1 : zN), g' = zg B M1 N1 ∧ r = (sq_told A k).1 ∧ zRl M1 N1 (sq_told A k).2 ∧ zHi M M1) := by
  refine zCi_of (by decide +kernel) (Nat.le_of_ble_eq_true rfl) .int rfl (fun _ _ _ => rfl) ?_
  intro X o kret
  show zW X B (zg B M N) 0 [(0, zref B 0), (1, .int k)] []
  obtain ⟨hnf, hnf4⟩ := ok_nf2 hok.1
  obtain ⟨hnc, hnc6⟩ := ok_nc2 hok.1
  obtain ⟨hnt, hnt60⟩ := ok_nt2 hok.1
  obtain ⟨hnw, hnw24⟩ := ok_nw2 hok.1
  have hF : ∀ i, i < 4 → zFn (9 + 2 * i) M (A 83) i := fun i hi => hR.1.2.1 i hi
  refine z_iload_n (j := 1) o dX7_told_0 rfl ?_
  refine z_iconst (v := 1) o dX7_told_1 (by decide) ?_
  refine z_icmplt (tgt := 11) o dX7_told_2 (by decide) (fun c1 => ?_) (fun c1 => ?_)
  · refine z_aload_n (j := 0) o dX7_told_11 rfl ?_
    refine z_iconst (v := 1) o dX7_told_12 (by decide) ?_
    refine z_callVi (As := [.int 1]) (n := 1) (st := []) o dX7_told_13 (c_X7_error hB M N 1 (by decide) (by decide)) zc_X7_54 (by decide) (i := 0) (by rw [hB]; exact zsh_lt rfl (by decide)) (zg_o rfl (by decide)) rfl rfl rfl (Nat.le_of_ble_eq_true rfl) (fun r2 g3 p4 => ?_)
    obtain ⟨rfl, rfl⟩ := p4
    have hS : sq_told A k = ((zE 1), zEr A 1) := by
      unfold sq_told;  rw [if_pos (zin_lo c1)] <;> (try rfl)
    exact kret _ _ _ _ dX7_told_16 ⟨zu M 73 1 (M 73 1 + 1), N, rfl, by rw [hS], by rw [hS]; exact (hR).er (k := 1) (by decide), ((zHi.rf (M := M))).zu (by decide)⟩
  · refine z_iload_n (j := 1) o dX7_told_5 rfl ?_
    refine z_bipush (v := 6) o dX7_told_6 (by decide) ?_
    refine z_icmple (tgt := 17) o dX7_told_8 (by decide) (fun c5 => ?_) (fun c5 => ?_)
    · obtain ⟨ka, lka, hka, eka⟩ := zin_rng (lo := 1) (n := 6) rfl rfl (by decide) (zin_in c1 c5)
      subst eka
      refine z_aload_n (j := 0) o dX7_told_17 rfl ?_
      refine zo_get (i := 0) o hB dX7_told_18 zf_X7_42 rfl (by decide) (rfl) ?_
      refine z_iload_n (j := 1) o dX7_told_21 rfl ?_
      refine zo_iald (i := 73) (j := ka) o hB dX7_told_22 rfl (show ka < 7 by omega) (by decide) ?_
      refine zo_rw (y := A 86 ka) (hR.2.2.2.1 ka (by omega)) ?_
      have hS : sq_told A (nI ka) = ((A 86 ka), A) := by
        unfold sq_told; (try rw [zn_nI (n := ka) (by omega)]); rw [if_neg (zin_in c1 c5)] <;> (try rfl)
      exact kret _ _ _ _ dX7_told_23 ⟨M, N, rfl, by rw [hS], by rw [hS]; exact hR, (zHi.rf (M := M))⟩
    · refine z_aload_n (j := 0) o dX7_told_11 rfl ?_
      refine z_iconst (v := 1) o dX7_told_12 (by decide) ?_
      refine z_callVi (As := [.int 1]) (n := 1) (st := []) o dX7_told_13 (c_X7_error hB M N 1 (by decide) (by decide)) zc_X7_54 (by decide) (i := 0) (by rw [hB]; exact zsh_lt rfl (by decide)) (zg_o rfl (by decide)) rfl rfl rfl (Nat.le_of_ble_eq_true rfl) (fun r6 g7 p8 => ?_)
      obtain ⟨rfl, rfl⟩ := p8
      have hS : sq_told A k = ((zE 1), zEr A 1) := by
        unfold sq_told;  rw [if_pos (zin_hi c5)] <;> (try rfl)
      exact kret _ _ _ _ dX7_told_16 ⟨zu M 73 1 (M 73 1 + 1), N, rfl, by rw [hS], by rw [hS]; exact (hR).er (k := 1) (by decide), ((zHi.rf (M := M))).zu (by decide)⟩

set_option maxHeartbeats 4000000 in
set_option maxRecDepth 100000 in
theorem k_tell {B : zB} (hB : znn B = 95) (M : zM) (N : zN) (A : zM) (v : Int32) (hR : zRl M N A) (hok : zOkAll (A 83)) : zCi B (zg B M N) yX7_tell cX7_tell 2 (some .int) 1 [zref B 0, .int v] (fun r g' => ∃ (M1 : zM) (N1 : zN), g' = zg B M1 N1 ∧ r = (sq_tell A v).1 ∧ zRl M1 N1 (sq_tell A v).2 ∧ zHi M M1) := by
  refine zCi_of (by decide +kernel) (Nat.le_of_ble_eq_true rfl) .int rfl (fun _ _ _ => rfl) ?_
  intro X o kret
  show zW X B (zg B M N) 0 [(0, zref B 0), (1, .int v)] []
  obtain ⟨hnf, hnf4⟩ := ok_nf2 hok.1
  obtain ⟨hnc, hnc6⟩ := ok_nc2 hok.1
  obtain ⟨hnt, hnt60⟩ := ok_nt2 hok.1
  obtain ⟨hnw, hnw24⟩ := ok_nw2 hok.1
  have hF : ∀ i, i < 4 → zFn (9 + 2 * i) M (A 83) i := fun i hi => hR.1.2.1 i hi
  refine z_aload_n (j := 0) o dX7_tell_0 rfl ?_
  refine zo_get (i := 0) o hB dX7_tell_1 zf_X7_10 rfl (by decide) (rfl) ?_
  refine zo_get (i := 1) o hB dX7_tell_4 zf_X7_287 rfl (by decide) (rfl) ?_
  refine zo_rw (y := nI (sp_nw (A 83))) (hR.1.1.2.2.2.2.2.trans hnw) ?_
  refine z_bipush (v := 24) o dX7_tell_7 (by decide) ?_
  refine z_icmplt (tgt := 18) o dX7_tell_9 (by decide) (fun c1 => ?_) (fun c1 => ?_)
  · have hfull9 := nI_ltI (b := 24) (by omega) (by decide) |>.mp c1
    refine z_aload_n (j := 0) o dX7_tell_18 rfl ?_
    refine zo_get (i := 0) o hB dX7_tell_19 zf_X7_10 rfl (by decide) (rfl) ?_
    refine zo_get (i := 1) o hB dX7_tell_22 zf_X7_290 rfl (by decide) (rfl) ?_
    refine z_aload_n (j := 0) o dX7_tell_25 rfl ?_
    refine zo_get (i := 0) o hB dX7_tell_26 zf_X7_10 rfl (by decide) (rfl) ?_
    refine zo_get (i := 1) o hB dX7_tell_29 zf_X7_287 rfl (by decide) (rfl) ?_
    refine zo_rw (y := nI (sp_nw (A 83))) (hR.1.1.2.2.2.2.2.trans hnw) ?_
    refine z_iload_n (j := 1) o dX7_tell_32 rfl ?_
    refine zo_iast (i := 7) (j := sp_nw (A 83)) o hB dX7_tell_33 rfl (show sp_nw (A 83) < 24 by omega) (by decide) ?_
    refine z_aload_n (j := 0) o dX7_tell_34 rfl ?_
    refine zo_get (i := 0) o hB dX7_tell_35 zf_X7_10 rfl (by decide) (rfl) ?_
    refine z_dup o dX7_tell_38 rfl ?_
    refine zo_get (i := 1) o hB dX7_tell_39 zf_X7_287 rfl (by decide) (rfl) ?_
    refine zo_rw (y := nI (sp_nw (A 83))) (by rw [zu_ne (by decide)]; exact hR.1.1.2.2.2.2.2.trans hnw) ?_
    refine z_iconst (v := 1) o dX7_tell_42 (by decide) ?_
    refine z_iadd o dX7_tell_43 ?_
    refine zo_rw (y := nI (sp_nw (A 83) + 1)) (zn_add (rfl) (rfl)) ?_
    refine zo_put (i := 1) o hB dX7_tell_44 zp_X7_287 rfl (by decide) (by decide) (Nat.le_of_ble_eq_true rfl) ?_
    refine z_aload_n (j := 0) o dX7_tell_47 rfl ?_
    refine zo_get (i := 0) o hB dX7_tell_48 zf_X7_10 rfl (by decide) (rfl) ?_
    refine zo_get (i := 1) o hB dX7_tell_51 zf_X7_287 rfl (by decide) (rfl) ?_
    refine zo_rw (y := nI (sp_nw (A 83) + 1)) (by rw [zu_at, upd_self]) ?_
    have hS : sq_tell A v = ((nI (sp_nw (A 83) + 1)), va_up A 83 (upd (upd (A 83) (258 + sp_nw (A 83)) v) 5 (nI (sp_nw (A 83) + 1)))) := by
      unfold sq_tell;  rw [if_neg (show ¬ nI (sp_nw (A 83)) = 24 from full_ne (m := 24) (by decide) c1 (by omega))] <;> (try rfl)
    exact kret _ _ _ _ dX7_tell_54 ⟨zu (zu M 7 (sp_nw (A 83)) v) 1 13 (nI (sp_nw (A 83) + 1)), N, rfl, by rw [hS], by rw [hS]; exact hR.now ((hR.1.wai (r := 1) (k := sp_nw (A 83)) (x := v) (by omega)).fld (r := 1) (k := 13) (v := 5) (x := (nI (sp_nw (A 83) + 1))) (by decide)) (fun j hj => (((zFr.rf (r := 1) (M := M)).zu (i := 7) ⟨by omega, by omega⟩).zu (i := 1) ⟨by omega, by omega⟩) j (by omega)) (fun j hj => (fun j _ => rfl : zFrN 1 N N) j (by omega)), (zHi.rf (M := M)).fr (((zFr.rf (r := 1) (M := M)).zu (i := 7) ⟨by omega, by omega⟩).zu (i := 1) ⟨by omega, by omega⟩) (by decide)⟩
  · refine z_aload_n (j := 0) o dX7_tell_12 rfl ?_
    refine z_iconst (v := 4) o dX7_tell_13 (by decide) ?_
    refine z_callVi (As := [.int 4]) (n := 1) (st := []) o dX7_tell_14 (c_X7_error hB M N 4 (by decide) (by decide)) zc_X7_54 (by decide) (i := 0) (by rw [hB]; exact zsh_lt rfl (by decide)) (zg_o rfl (by decide)) rfl rfl rfl (Nat.le_of_ble_eq_true rfl) (fun r2 g3 p4 => ?_)
    obtain ⟨rfl, rfl⟩ := p4
    have hS : sq_tell A v = ((zE 4), zEr A 4) := by
      unfold sq_tell;  rw [if_pos (show nI (sp_nw (A 83)) = 24 from full_eq (m := 24) (by omega) (by decide) c1)] <;> (try rfl)
    exact kret _ _ _ _ dX7_tell_17 ⟨zu M 73 4 (M 73 4 + 1), N, rfl, by rw [hS], by rw [hS]; exact (hR).er (k := 4) (by decide), ((zHi.rf (M := M))).zu (by decide)⟩

set_option maxHeartbeats 4000000 in
set_option maxRecDepth 100000 in
theorem k_count {B : zB} (hB : znn B = 95) (M : zM) (N : zN) (A : zM) (w : Int32) (hR : zRl M N A) (hok : zOkAll (A 83)) : zCi B (zg B M N) yX7_count cX7_count 2 (some .int) 1 [zref B 0, .int w] (fun r g' => ∃ (M1 : zM) (N1 : zN), g' = zg B M1 N1 ∧ r = (sq_count A w).1 ∧ zRl M1 N1 (sq_count A w).2 ∧ zHi M M1) := by
  refine zCi_of (by decide +kernel) (Nat.le_of_ble_eq_true rfl) .int rfl (fun _ _ _ => rfl) ?_
  intro X o kret
  show zW X B (zg B M N) 0 [(0, zref B 0), (1, .int w)] []
  obtain ⟨hnf, hnf4⟩ := ok_nf2 hok.1
  obtain ⟨hnc, hnc6⟩ := ok_nc2 hok.1
  obtain ⟨hnt, hnt60⟩ := ok_nt2 hok.1
  obtain ⟨hnw, hnw24⟩ := ok_nw2 hok.1
  have hF : ∀ i, i < 4 → zFn (9 + 2 * i) M (A 83) i := fun i hi => hR.1.2.1 i hi
  refine z_iload_n (j := 1) o dX7_count_0 rfl ?_
  refine z_tcase 0 (tgt := 52) o dX7_count_1 (by decide) (by decide) rfl (by decide) (fun c1 => ?_) (fun c1 => ?_)
  · obtain rfl : w = 0 := c1
    refine z_aload_n (j := 0) o dX7_count_52 rfl ?_
    refine zo_get (i := 0) o hB dX7_count_53 zf_X7_10 rfl (by decide) (rfl) ?_
    refine zo_get (i := 1) o hB dX7_count_56 zf_X7_58 rfl (by decide) (rfl) ?_
    refine zo_rw (y := A 83 2) (hR.1.1.1) ?_
    have hS : sq_count A 0 = ((A 83 2), A) := by
      unfold sq_count;  rw [if_pos rfl] <;> (try rfl)
    exact kret _ _ _ _ dX7_count_59 ⟨M, N, rfl, by rw [hS], by rw [hS]; exact hR, (zHi.rf (M := M))⟩
  refine z_tcase 1 (tgt := 60) o dX7_count_1 (by decide) (by decide) rfl (by decide) (fun c2 => ?_) (fun c2 => ?_)
  · obtain rfl : w = 1 := c2
    refine z_aload_n (j := 0) o dX7_count_60 rfl ?_
    refine zo_get (i := 0) o hB dX7_count_61 zf_X7_10 rfl (by decide) (rfl) ?_
    refine zo_get (i := 1) o hB dX7_count_64 zf_X7_143 rfl (by decide) (rfl) ?_
    refine zo_rw (y := A 83 3) (hR.1.1.2.1) ?_
    have hS : sq_count A 1 = ((A 83 3), A) := by
      unfold sq_count;  rw [if_neg (show ¬ (1 : Int32) = 0 by decide), if_pos rfl] <;> (try rfl)
    exact kret _ _ _ _ dX7_count_67 ⟨M, N, rfl, by rw [hS], by rw [hS]; exact hR, (zHi.rf (M := M))⟩
  refine z_tcase 2 (tgt := 68) o dX7_count_1 (by decide) (by decide) rfl (by decide) (fun c3 => ?_) (fun c3 => ?_)
  · obtain rfl : w = 2 := c3
    refine z_aload_n (j := 0) o dX7_count_68 rfl ?_
    refine zo_get (i := 0) o hB dX7_count_69 zf_X7_10 rfl (by decide) (rfl) ?_
    refine zo_get (i := 1) o hB dX7_count_72 zf_X7_116 rfl (by decide) (rfl) ?_
    refine zo_rw (y := A 83 0) (hR.1.1.2.2.1) ?_
    have hS : sq_count A 2 = ((A 83 0), A) := by
      unfold sq_count;  rw [if_neg (show ¬ (2 : Int32) = 0 by decide), if_neg (show ¬ (2 : Int32) = 1 by decide), if_pos rfl] <;> (try rfl)
    exact kret _ _ _ _ dX7_count_75 ⟨M, N, rfl, by rw [hS], by rw [hS]; exact hR, (zHi.rf (M := M))⟩
  refine z_tcase 3 (tgt := 76) o dX7_count_1 (by decide) (by decide) rfl (by decide) (fun c4 => ?_) (fun c4 => ?_)
  · obtain rfl : w = 3 := c4
    have ecn := cnt_bits hR.1.2.2.2.1 (ok_bits hok.1 (Or.inl rfl))
    refine z_aload_n (j := 0) o dX7_count_76 rfl ?_
    refine zo_get (i := 0) o hB dX7_count_77 zf_X7_10 rfl (by decide) (rfl) ?_
    refine zo_get (i := 1) o hB dX7_count_80 zf_X7_126 rfl (by decide) (rfl) ?_
    refine z_callSi (As := [.long (N 1 5)]) (n := 1) (st := []) o dX7_count_83 (c_J13_bitCount hB M N (N 1 5)) zc_X7_102 (by decide) rfl rfl (Nat.le_of_ble_eq_true rfl) (fun r5 g6 p7 => ?_)
    obtain ⟨rfl, rfl⟩ := p7
    have hS : sq_count A 3 = ((nI (lpop (N 1 5))), A) := by
      unfold sq_count;  rw [if_neg (show ¬ (3 : Int32) = 0 by decide), if_neg (show ¬ (3 : Int32) = 1 by decide), if_neg (show ¬ (3 : Int32) = 2 by decide), if_pos rfl, ← ecn] <;> (try rfl)
    exact kret _ _ _ _ dX7_count_86 ⟨M, N, rfl, by rw [hS], by rw [hS]; exact hR, (zHi.rf (M := M))⟩
  refine z_tcase 4 (tgt := 87) o dX7_count_1 (by decide) (by decide) rfl (by decide) (fun c8 => ?_) (fun c8 => ?_)
  · obtain rfl : w = 4 := c8
    have ecn := cnt_bits hR.1.2.2.2.2.1 (ok_bits hok.1 (Or.inr rfl))
    refine z_aload_n (j := 0) o dX7_count_87 rfl ?_
    refine zo_get (i := 0) o hB dX7_count_88 zf_X7_10 rfl (by decide) (rfl) ?_
    refine zo_get (i := 1) o hB dX7_count_91 zf_X7_130 rfl (by decide) (rfl) ?_
    refine z_callSi (As := [.long (N 1 6)]) (n := 1) (st := []) o dX7_count_94 (c_J13_bitCount hB M N (N 1 6)) zc_X7_102 (by decide) rfl rfl (Nat.le_of_ble_eq_true rfl) (fun r9 g10 p11 => ?_)
    obtain ⟨rfl, rfl⟩ := p11
    have hS : sq_count A 4 = ((nI (lpop (N 1 6))), A) := by
      unfold sq_count;  rw [if_neg (show ¬ (4 : Int32) = 0 by decide), if_neg (show ¬ (4 : Int32) = 1 by decide), if_neg (show ¬ (4 : Int32) = 2 by decide), if_neg (show ¬ (4 : Int32) = 3 by decide), if_pos rfl, ← ecn] <;> (try rfl)
    exact kret _ _ _ _ dX7_count_97 ⟨M, N, rfl, by rw [hS], by rw [hS]; exact hR, (zHi.rf (M := M))⟩
  refine z_tcase 5 (tgt := 98) o dX7_count_1 (by decide) (by decide) rfl (by decide) (fun c12 => ?_) (fun c12 => ?_)
  · obtain rfl : w = 5 := c12
    refine z_aload_n (j := 0) o dX7_count_98 rfl ?_
    refine zo_get (i := 0) o hB dX7_count_99 zf_X7_10 rfl (by decide) (rfl) ?_
    refine zo_get (i := 1) o hB dX7_count_102 zf_X7_161 rfl (by decide) (rfl) ?_
    refine zo_rw (y := A 83 4) (hR.1.1.2.2.2.2.1) ?_
    have hS : sq_count A 5 = ((A 83 4), A) := by
      unfold sq_count;  rw [if_neg (show ¬ (5 : Int32) = 0 by decide), if_neg (show ¬ (5 : Int32) = 1 by decide), if_neg (show ¬ (5 : Int32) = 2 by decide), if_neg (show ¬ (5 : Int32) = 3 by decide), if_neg (show ¬ (5 : Int32) = 4 by decide), if_pos rfl] <;> (try rfl)
    exact kret _ _ _ _ dX7_count_105 ⟨M, N, rfl, by rw [hS], by rw [hS]; exact hR, (zHi.rf (M := M))⟩
  refine z_tcase 6 (tgt := 106) o dX7_count_1 (by decide) (by decide) rfl (by decide) (fun c13 => ?_) (fun c13 => ?_)
  · obtain rfl : w = 6 := c13
    refine z_aload_n (j := 0) o dX7_count_106 rfl ?_
    refine zo_get (i := 0) o hB dX7_count_107 zf_X7_10 rfl (by decide) (rfl) ?_
    refine zo_get (i := 1) o hB dX7_count_110 zf_X7_287 rfl (by decide) (rfl) ?_
    refine zo_rw (y := A 83 5) (hR.1.1.2.2.2.2.2) ?_
    have hS : sq_count A 6 = ((A 83 5), A) := by
      unfold sq_count;  rw [if_neg (show ¬ (6 : Int32) = 0 by decide), if_neg (show ¬ (6 : Int32) = 1 by decide), if_neg (show ¬ (6 : Int32) = 2 by decide), if_neg (show ¬ (6 : Int32) = 3 by decide), if_neg (show ¬ (6 : Int32) = 4 by decide), if_neg (show ¬ (6 : Int32) = 5 by decide), if_pos rfl] <;> (try rfl)
    exact kret _ _ _ _ dX7_count_113 ⟨M, N, rfl, by rw [hS], by rw [hS]; exact hR, (zHi.rf (M := M))⟩
  refine z_tcase 7 (tgt := 114) o dX7_count_1 (by decide) (by decide) rfl (by decide) (fun c14 => ?_) (fun c14 => ?_)
  · obtain rfl : w = 7 := c14
    refine z_aload_n (j := 0) o dX7_count_114 rfl ?_
    refine zo_get (i := 0) o hB dX7_count_115 zf_X7_32 rfl (by decide) (rfl) ?_
    refine zo_get (i := 70) o hB dX7_count_118 zf_X7_253 rfl (by decide) (rfl) ?_
    refine zo_rw (y := A 82 18) (hR.2.2.2.2.2.1.1) ?_
    have hS : sq_count A 7 = ((A 82 18), A) := by
      unfold sq_count;  rw [if_neg (show ¬ (7 : Int32) = 0 by decide), if_neg (show ¬ (7 : Int32) = 1 by decide), if_neg (show ¬ (7 : Int32) = 2 by decide), if_neg (show ¬ (7 : Int32) = 3 by decide), if_neg (show ¬ (7 : Int32) = 4 by decide), if_neg (show ¬ (7 : Int32) = 5 by decide), if_neg (show ¬ (7 : Int32) = 6 by decide), if_pos rfl] <;> (try rfl)
    exact kret _ _ _ _ dX7_count_121 ⟨M, N, rfl, by rw [hS], by rw [hS]; exact hR, (zHi.rf (M := M))⟩
  refine z_tcase 8 (tgt := 122) o dX7_count_1 (by decide) (by decide) rfl (by decide) (fun c15 => ?_) (fun c15 => ?_)
  · obtain rfl : w = 8 := c15
    refine z_aload_n (j := 0) o dX7_count_122 rfl ?_
    refine zo_get (i := 0) o hB dX7_count_123 zf_X7_10 rfl (by decide) (rfl) ?_
    refine zo_get (i := 1) o hB dX7_count_126 zf_X7_207 rfl (by decide) (rfl) ?_
    refine zo_rw (y := A 83 1) (hR.1.1.2.2.2.1) ?_
    have hS : sq_count A 8 = ((A 83 1), A) := by
      unfold sq_count;  rw [if_neg (show ¬ (8 : Int32) = 0 by decide), if_neg (show ¬ (8 : Int32) = 1 by decide), if_neg (show ¬ (8 : Int32) = 2 by decide), if_neg (show ¬ (8 : Int32) = 3 by decide), if_neg (show ¬ (8 : Int32) = 4 by decide), if_neg (show ¬ (8 : Int32) = 5 by decide), if_neg (show ¬ (8 : Int32) = 6 by decide), if_neg (show ¬ (8 : Int32) = 7 by decide), if_pos rfl] <;> (try rfl)
    exact kret _ _ _ _ dX7_count_129 ⟨M, N, rfl, by rw [hS], by rw [hS]; exact hR, (zHi.rf (M := M))⟩
  refine z_tdef (tgt := 130) o dX7_count_1 (by have := lv_neT (a := 0) c1 rfl; have := lv_neT (a := 1) c2 rfl; have := lv_neT (a := 2) c3 rfl; have := lv_neT (a := 3) c4 rfl; have := lv_neT (a := 4) c8 rfl; have := lv_neT (a := 5) c12 rfl; have := lv_neT (a := 6) c13 rfl; have := lv_neT (a := 7) c14 rfl; have := lv_neT (a := 8) c15 rfl; omega) (by decide) ?_
  refine z_aload_n (j := 0) o dX7_count_130 rfl ?_
  refine z_iconst (v := 1) o dX7_count_131 (by decide) ?_
  refine z_callVi (As := [.int 1]) (n := 1) (st := []) o dX7_count_132 (c_X7_error hB M N 1 (by decide) (by decide)) zc_X7_54 (by decide) (i := 0) (by rw [hB]; exact zsh_lt rfl (by decide)) (zg_o rfl (by decide)) rfl rfl rfl (Nat.le_of_ble_eq_true rfl) (fun r16 g17 p18 => ?_)
  obtain ⟨rfl, rfl⟩ := p18
  have hS : sq_count A w = ((zE 1), zEr A 1) := by
    unfold sq_count;  rw [if_neg c1, if_neg c2, if_neg c3, if_neg c4, if_neg c8, if_neg c12, if_neg c13, if_neg c14, if_neg c15] <;> (try rfl)
  exact kret _ _ _ _ dX7_count_135 ⟨zu M 73 1 (M 73 1 + 1), N, rfl, by rw [hS], by rw [hS]; exact (hR).er (k := 1) (by decide), ((zHi.rf (M := M))).zu (by decide)⟩

set_option maxHeartbeats 4000000 in
set_option maxRecDepth 100000 in
theorem k_image {B : zB} (hB : znn B = 95) (M : zM) (N : zN) (A : zM)  (hR : zRl M N A) (hok : zOkAll (A 83)) : zCi B (zg B M N) yX7_image cX7_image 1 (some .int) 3 [zref B 0] (fun r g' => ∃ (M1 : zM) (N1 : zN), g' = zg B M1 N1 ∧ r = (sq_image A).1 ∧ zRl M1 N1 (sq_image A).2 ∧ zHi M M1) := by
  refine zCi_of (by decide +kernel) (Nat.le_of_ble_eq_true rfl) .int rfl (fun _ _ _ => rfl) ?_
  intro X o kret
  show zW X B (zg B M N) 0 [(0, zref B 0)] []
  obtain ⟨hnf, hnf4⟩ := ok_nf2 hok.1
  obtain ⟨hnc, hnc6⟩ := ok_nc2 hok.1
  obtain ⟨hnt, hnt60⟩ := ok_nt2 hok.1
  obtain ⟨hnw, hnw24⟩ := ok_nw2 hok.1
  have hF : ∀ i, i < 4 → zFn (9 + 2 * i) M (A 83) i := fun i hi => hR.1.2.1 i hi
  refine z_aload_n (j := 0) o dX7_image_0 rfl ?_
  refine zo_get (i := 0) o hB dX7_image_1 zf_X7_16 rfl (by decide) (rfl) ?_
  refine z_aload_n (j := 0) o dX7_image_4 rfl ?_
  refine zo_get (i := 0) o hB dX7_image_5 zf_X7_10 rfl (by decide) (rfl) ?_
  refine z_callVv (As := [zref B 1]) (n := 1) (st := []) o dX7_image_8 (c_X3_takeAll hB M N 23 1 (A 83) rfl rfl (Or.inr (by decide)) hok hR.1 (fun u hu => (hR.2.2.1 u hu).1)) zc_X7_213 (by decide) (i := 23) (by rw [hB]; exact zsh_lt rfl (by decide)) (zg_o rfl (by decide)) rfl rfl rfl (Nat.le_of_ble_eq_true rfl) (fun g2 p3 => ?_)
  obtain ⟨M9, N9, rfl, f9, n9, g9⟩ := p3
  refine z_aload_n (j := 0) o dX7_image_11 rfl ?_
  refine z_dup o dX7_image_12 rfl ?_
  refine zo_get (i := 0) o hB dX7_image_13 zf_X7_284 rfl (by decide) (rfl) ?_
  refine zo_rw (y := A 82 3) ((by rw [f9 0 (by decide)]; exact hR.2.2.2.2.1)) ?_
  refine z_iconst (v := 1) o dX7_image_16 (by decide) ?_
  refine z_iadd o dX7_image_17 ?_
  refine zo_put (i := 0) o hB dX7_image_18 zp_X7_284 rfl (by decide) (by decide) (Nat.le_of_ble_eq_true rfl) ?_
  have hRi : zRl (zu M9 0 7 ((A 82 3) + 1)) N9 (zu (va_up A 84 (A 83)) 82 3 (A 82 3 + 1)) := hR.img f9 n9 g9
  refine z_aload_n (j := 0) o dX7_image_21 rfl ?_
  refine zo_get (i := 0) o hB dX7_image_22 zf_X7_284 rfl (by decide) (rfl) ?_
  refine zo_rw (y := A 82 3 + 1) (by rw [zu_at, upd_self]) ?_
  have hS : sq_image A = ((A 82 3 + 1), zu (va_up A 84 (A 83)) 82 3 (A 82 3 + 1)) := by
    unfold sq_image;  skip <;> (try rfl)
  exact kret _ _ _ _ dX7_image_25 ⟨zu M9 0 7 ((A 82 3) + 1), N9, rfl, by rw [hS], by rw [hS]; exact hRi, (((zHi.rf (M := M)).fr f9 (by decide)).zu (i := 0) (by decide))⟩

set_option maxHeartbeats 4000000 in
set_option maxRecDepth 100000 in
theorem k_restore {B : zB} (hB : znn B = 95) (M : zM) (N : zN) (A : zM)  (hR : zRl M N A) (hok : zOkAll (A 83)) (hok4 : ¬ A 82 3 = 0 → zOkAll (A 84)) : zCi B (zg B M N) yX7_restore cX7_restore 1 (some .int) 3 [zref B 0] (fun r g' => ∃ (M1 : zM) (N1 : zN), g' = zg B M1 N1 ∧ r = (sq_restore A).1 ∧ zRl M1 N1 (sq_restore A).2 ∧ zHi M M1) := by
  refine zCi_of (by decide +kernel) (Nat.le_of_ble_eq_true rfl) .int rfl (fun _ _ _ => rfl) ?_
  intro X o kret
  show zW X B (zg B M N) 0 [(0, zref B 0)] []
  obtain ⟨hnf, hnf4⟩ := ok_nf2 hok.1
  obtain ⟨hnc, hnc6⟩ := ok_nc2 hok.1
  obtain ⟨hnt, hnt60⟩ := ok_nt2 hok.1
  obtain ⟨hnw, hnw24⟩ := ok_nw2 hok.1
  have hF : ∀ i, i < 4 → zFn (9 + 2 * i) M (A 83) i := fun i hi => hR.1.2.1 i hi
  refine z_aload_n (j := 0) o dX7_restore_0 rfl ?_
  refine zo_get (i := 0) o hB dX7_restore_1 zf_X7_284 rfl (by decide) (rfl) ?_
  refine zo_rw (y := A 82 3) (hR.2.2.2.2.1) ?_
  refine z_ifne (tgt := 13) o dX7_restore_4 (by decide) (fun c1 => ?_) (fun c1 => ?_)
  · refine z_aload_n (j := 0) o dX7_restore_13 rfl ?_
    refine zo_get (i := 0) o hB dX7_restore_14 zf_X7_10 rfl (by decide) (rfl) ?_
    refine z_aload_n (j := 0) o dX7_restore_17 rfl ?_
    refine zo_get (i := 0) o hB dX7_restore_18 zf_X7_16 rfl (by decide) (rfl) ?_
    refine z_callVv (As := [zref B 23]) (n := 1) (st := []) o dX7_restore_21 (c_X3_takeAll hB M N 1 23 (A 84) rfl rfl (Or.inl (by decide)) (hok4 c1) (hR.2.1 c1) (fun u hu => (hR.1.2.2.2.2.2.2.2 u hu).1)) zc_X7_213 (by decide) (i := 1) (by rw [hB]; exact zsh_lt rfl (by decide)) (zg_o rfl (by decide)) rfl rfl rfl (Nat.le_of_ble_eq_true rfl) (fun g3 p4 => ?_)
    obtain ⟨M9, N9, rfl, f9, n9, g9⟩ := p4
    refine z_aload_n (j := 0) o dX7_restore_24 rfl ?_
    refine zo_get (i := 0) o hB dX7_restore_25 zf_X7_10 rfl (by decide) (rfl) ?_
    refine zo_get (i := 1) o hB dX7_restore_28 zf_X7_116 rfl (by decide) (rfl) ?_
    refine zo_rw (y := A 84 0) (g9.1.2.2.1) ?_
    have hS : sq_restore A = ((A 84 0), va_up A 83 (A 84)) := by
      unfold sq_restore;  rw [if_neg c1] <;> (try rfl)
    exact kret _ _ _ _ dX7_restore_31 ⟨M9, N9, rfl, by rw [hS], by rw [hS]; exact hR.now g9 (fun j hj => f9 j (by omega)) (fun j hj => n9 j (by omega)), (zHi.rf (M := M)).fr f9 (by decide)⟩
  · refine z_aload_n (j := 0) o dX7_restore_7 rfl ?_
    refine z_iconst (v := 2) o dX7_restore_8 (by decide) ?_
    refine z_callVi (As := [.int 2]) (n := 1) (st := []) o dX7_restore_9 (c_X7_error hB M N 2 (by decide) (by decide)) zc_X7_54 (by decide) (i := 0) (by rw [hB]; exact zsh_lt rfl (by decide)) (zg_o rfl (by decide)) rfl rfl rfl (Nat.le_of_ble_eq_true rfl) (fun r5 g6 p7 => ?_)
    obtain ⟨rfl, rfl⟩ := p7
    have hS : sq_restore A = ((zE 2), zEr A 2) := by
      unfold sq_restore;  rw [if_pos c1] <;> (try rfl)
    exact kret _ _ _ _ dX7_restore_12 ⟨zu M 73 2 (M 73 2 + 1), N, rfl, by rw [hS], by rw [hS]; exact (hR).er (k := 2) (by decide), ((zHi.rf (M := M))).zu (by decide)⟩

theorem nf_out {ρ : Nat → Int32} {k : Nat} (hn : ρ 2 = nI (sp_nf ρ)) (h : k < 2 ^ 31 ∧ sp_nf ρ < 2 ^ 31) (hk : ¬ nI k < nI (sp_nf ρ)) : zin (nI k) 0 (ρ 2 - 1) = 0 := by
  rw [hn, ← cg_lt h.2, if_neg (nI_pos h.1), if_neg hk]
theorem nf_in {ρ : Nat → Int32} {k : Nat} (hn : ρ 2 = nI (sp_nf ρ)) (h : sp_nf ρ < 2 ^ 31) (hk : k < sp_nf ρ) : ¬ zin (nI k) 0 (ρ 2 - 1) = 0 := by
  rw [hn, ← cg_lt h, if_neg (nI_pos (by omega)), if_pos (nI_lt hk h)]; decide
set_option maxHeartbeats 4000000 in
set_option maxRecDepth 100000 in
theorem k_check {B : zB} (hB : znn B = 95) (M : zM) (N : zN) (A : zM)  (hR : zRl M N A) (hok : zOkAll (A 83)) : zCi B (zg B M N) yX7_check cX7_check 3 (some .int) 1 [zref B 0] (fun r g' => ∃ (M1 : zM) (N1 : zN), g' = zg B M1 N1 ∧ r = (sq_check A).1 ∧ zRl M1 N1 (sq_check A).2 ∧ zHi M M1) := by
  refine zCi_of (by decide +kernel) (Nat.le_of_ble_eq_true rfl) .int rfl (fun _ _ _ => rfl) ?_
  intro X o kret
  show zW X B (zg B M N) 0 [(0, zref B 0)] []
  obtain ⟨hnf, hnf4⟩ := ok_nf2 hok.1
  obtain ⟨hnc, hnc6⟩ := ok_nc2 hok.1
  obtain ⟨hnt, hnt60⟩ := ok_nt2 hok.1
  obtain ⟨hnw, hnw24⟩ := ok_nw2 hok.1
  have hF : ∀ i, i < 4 → zFn (9 + 2 * i) M (A 83) i := fun i hi => hR.1.2.1 i hi
  refine z_iconst (v := 0) o dX7_check_0 (by decide) ?_
  refine z_istore_n (i := 1) (lv2 := [(1, .int 0), (0, zref B 0)]) o dX7_check_1 rfl (by decide) rfl ?_
  have LOOP : ∀ nq kq : Nat, kq + nq = sp_nw (A 83) → kq ≤ sp_nf (A 83) → sp_chk (A 83) (sp_nw (A 83)) 0 = sp_chk (A 83) nq kq → zW X B (zg B M N) 2 [(1, .int (nI kq)), (0, zref B 0)] [] := by
    intro nq
    induction nq with
    | zero =>
      intro kq hkq hkf hF9
      have hF9 : sp_chk (A 83) (sp_nw (A 83)) 0 = 0 := hF9
      refine z_iload_n (j := 0) o dX7_check_2 rfl ?_
      refine z_aload_n (j := 1) o dX7_check_3 rfl ?_
      refine zo_get (i := 0) o hB dX7_check_4 zf_X7_10 rfl (by decide) (rfl) ?_
      refine zo_get (i := 1) o hB dX7_check_7 zf_X7_287 rfl (by decide) (rfl) ?_
      refine zo_rw (y := nI (sp_nw (A 83))) (hR.1.1.2.2.2.2.2.trans hnw) ?_
      refine z_icmpge (tgt := 54) o dX7_check_10 (by decide) (fun c1 => ?_) (fun c1 => ?_)
      · refine z_iload_n (j := 0) o dX7_check_54 rfl ?_
        refine z_aload_n (j := 1) o dX7_check_55 rfl ?_
        refine zo_get (i := 0) o hB dX7_check_56 zf_X7_10 rfl (by decide) (rfl) ?_
        refine zo_get (i := 1) o hB dX7_check_59 zf_X7_287 rfl (by decide) (rfl) ?_
        refine zo_rw (y := nI (sp_nw (A 83))) (hR.1.1.2.2.2.2.2.trans hnw) ?_
        refine z_icmpne (tgt := 69) o dX7_check_62 (by decide) (fun c2 => ?_) (fun c2 => ?_)
        · exact absurd (congrArg nI (show kq = sp_nw (A 83) by omega)) c2
        · refine z_iconst (v := 1) o dX7_check_65 (by decide) ?_
          refine z_goto (tgt := 70) o dX7_check_66 (by decide) ?_
          refine z_istore_n (i := 2) (lv2 := [(2, .int 1), (1, .int (nI kq)), (0, zref B 0)]) o dX7_check_70 rfl (by decide) rfl ?_
          refine z_aload_n (j := 2) o dX7_check_71 rfl ?_
          refine zo_get (i := 0) o hB dX7_check_72 zf_X7_10 rfl (by decide) (rfl) ?_
          refine z_iconst (v := 0) o dX7_check_75 (by decide) ?_
          refine zo_put (i := 1) o hB dX7_check_76 zp_X7_287 rfl (by decide) (by decide) (Nat.le_of_ble_eq_true rfl) ?_
          refine z_iload_n (j := 0) o dX7_check_79 rfl ?_
          refine z_ifeq (tgt := 87) o dX7_check_80 (by decide) (fun c3 => ?_) (fun c3 => ?_)
          · exact absurd c3 (by decide)
          · refine z_iconst (v := 0) o dX7_check_83 (by decide) ?_
            refine z_goto (tgt := 90) o dX7_check_84 (by decide) ?_
            have hS : sq_check A = (0, va_up A 83 (upd (A 83) 5 0)) := by
              unfold sq_check;  rw [hF9] <;> (try rfl)
            exact kret _ _ _ _ dX7_check_90 ⟨zu M 1 13 0, N, rfl, by rw [hS], by rw [hS]; exact hR.now (hR.1.fld (r := 1) (k := 13) (v := 5) (x := 0) (by decide)) (fun j hj => ((zFr.rf (r := 1) (M := M)).zu (i := 1) ⟨by omega, by omega⟩) j (by omega)) (fun j hj => (fun j _ => rfl : zFrN 1 N N) j (by omega)), (zHi.rf (M := M)).fr ((zFr.rf (r := 1) (M := M)).zu (i := 1) ⟨by omega, by omega⟩) (by decide)⟩
      · exact absurd c1 (nI_nlt (a := kq) (b := sp_nw (A 83)) (by omega) (by omega))
    | succ nq ih =>
      intro kq hkq hkf hF9
      have hlt : kq < sp_nw (A 83) := by omega
      have hF9 : sp_chk (A 83) (sp_nw (A 83)) 0 = (if zin (nI kq) 0 (A 83 2 - 1) = 0 then nI (1 + kq) else if A 83 (258 + kq) = A 83 (6 + 13 * kq + 4) then sp_chk (A 83) nq (kq + 1) else nI (1 + kq)) := hF9
      refine z_iload_n (j := 0) o dX7_check_2 rfl ?_
      refine z_aload_n (j := 1) o dX7_check_3 rfl ?_
      refine zo_get (i := 0) o hB dX7_check_4 zf_X7_10 rfl (by decide) (rfl) ?_
      refine zo_get (i := 1) o hB dX7_check_7 zf_X7_287 rfl (by decide) (rfl) ?_
      refine zo_rw (y := nI (sp_nw (A 83))) (hR.1.1.2.2.2.2.2.trans hnw) ?_
      refine z_icmpge (tgt := 54) o dX7_check_10 (by decide) (fun c4 => ?_) (fun c4 => ?_)
      · exact absurd (nI_lt (a := kq) (b := sp_nw (A 83)) (by omega) (by omega)) c4
      · refine z_iload_n (j := 0) o dX7_check_13 rfl ?_
        refine z_aload_n (j := 1) o dX7_check_14 rfl ?_
        refine zo_get (i := 0) o hB dX7_check_15 zf_X7_10 rfl (by decide) (rfl) ?_
        refine zo_get (i := 1) o hB dX7_check_18 zf_X7_58 rfl (by decide) (rfl) ?_
        refine zo_rw (y := nI (sp_nf (A 83))) (hR.1.1.1.trans hnf) ?_
        refine z_icmpge (tgt := 54) o dX7_check_21 (by decide) (fun c5 => ?_) (fun c5 => ?_)
        · refine z_iload_n (j := 0) o dX7_check_54 rfl ?_
          refine z_aload_n (j := 1) o dX7_check_55 rfl ?_
          refine zo_get (i := 0) o hB dX7_check_56 zf_X7_10 rfl (by decide) (rfl) ?_
          refine zo_get (i := 1) o hB dX7_check_59 zf_X7_287 rfl (by decide) (rfl) ?_
          refine zo_rw (y := nI (sp_nw (A 83))) (hR.1.1.2.2.2.2.2.trans hnw) ?_
          refine z_icmpne (tgt := 69) o dX7_check_62 (by decide) (fun c6 => ?_) (fun c6 => ?_)
          · refine z_iconst (v := 0) o dX7_check_69 (by decide) ?_
            refine z_istore_n (i := 2) (lv2 := [(2, .int 0), (1, .int (nI kq)), (0, zref B 0)]) o dX7_check_70 rfl (by decide) rfl ?_
            refine z_aload_n (j := 2) o dX7_check_71 rfl ?_
            refine zo_get (i := 0) o hB dX7_check_72 zf_X7_10 rfl (by decide) (rfl) ?_
            refine z_iconst (v := 0) o dX7_check_75 (by decide) ?_
            refine zo_put (i := 1) o hB dX7_check_76 zp_X7_287 rfl (by decide) (by decide) (Nat.le_of_ble_eq_true rfl) ?_
            refine z_iload_n (j := 0) o dX7_check_79 rfl ?_
            refine z_ifeq (tgt := 87) o dX7_check_80 (by decide) (fun c7 => ?_) (fun c7 => ?_)
            · refine z_iload_n (j := 1) o dX7_check_87 rfl ?_
              refine z_iconst (v := 1) o dX7_check_88 (by decide) ?_
              refine z_iadd o dX7_check_89 ?_
              refine zo_rw (y := nI (kq + 1)) (zn_add (rfl) (rfl)) ?_
              refine zo_rw (y := nI (1 + kq)) (by rw [Nat.add_comm]) ?_
              have hS : sq_check A = (nI (1 + kq), va_up A 83 (upd (A 83) 5 0)) := by
                unfold sq_check;  rw [hF9, if_pos (nf_out hnf (by omega) c5)] <;> (try rfl)
              exact kret _ _ _ _ dX7_check_90 ⟨zu M 1 13 0, N, rfl, by rw [hS], by rw [hS]; exact hR.now (hR.1.fld (r := 1) (k := 13) (v := 5) (x := 0) (by decide)) (fun j hj => ((zFr.rf (r := 1) (M := M)).zu (i := 1) ⟨by omega, by omega⟩) j (by omega)) (fun j hj => (fun j _ => rfl : zFrN 1 N N) j (by omega)), (zHi.rf (M := M)).fr ((zFr.rf (r := 1) (M := M)).zu (i := 1) ⟨by omega, by omega⟩) (by decide)⟩
            · exact absurd c7 (by decide)
          · exact absurd ((nI_eq (a := kq) (b := sp_nw (A 83)) (by omega) (by omega)).mp c6) (by omega)
        · have hkn : kq < sp_nf (A 83) := (nI_ltI (by omega) (by omega)).mp c5
          have hz9 : ¬ zin (nI kq) 0 (A 83 2 - 1) = 0 := nf_in hnf (by omega) hkn
          refine z_aload_n (j := 1) o dX7_check_24 rfl ?_
          refine zo_get (i := 0) o hB dX7_check_25 zf_X7_10 rfl (by decide) (rfl) ?_
          refine zo_get (i := 1) o hB dX7_check_28 zf_X7_290 rfl (by decide) (rfl) ?_
          refine z_iload_n (j := 0) o dX7_check_31 rfl ?_
          refine zo_iald (i := 7) (j := kq) o hB dX7_check_32 rfl (show kq < 24 by omega) (by decide) ?_
          refine zo_rw (y := A 83 (258 + kq)) (hR.1.2.2.2.2.2.2.1 kq (by omega)) ?_
          refine z_aload_n (j := 1) o dX7_check_33 rfl ?_
          refine zo_get (i := 0) o hB dX7_check_34 zf_X7_10 rfl (by decide) (rfl) ?_
          refine zo_get (i := 1) o hB dX7_check_37 zf_X7_62 rfl (by decide) (rfl) ?_
          refine z_iload_n (j := 0) o dX7_check_40 rfl ?_
          refine zo_aldF (i := 2) (j := kq) o hB dX7_check_41 rfl (show kq < 4 by omega) (by decide) ?_
          refine zo_get (i := 9 + 2 * kq) o hB dX7_check_42 zf_X7_95 ((zh_R (r := 1) rfl).2.2.2.2.2.2.2.1 kq (by omega)) (by decide) (rfl) ?_
          refine zo_rw (y := A 83 (6 + 13 * kq + 4)) ((hF kq (by omega)).2.2.2.2.1) ?_
          refine z_icmpne (tgt := 54) o dX7_check_45 (by decide) (fun c8 => ?_) (fun c8 => ?_)
          · refine z_iload_n (j := 0) o dX7_check_54 rfl ?_
            refine z_aload_n (j := 1) o dX7_check_55 rfl ?_
            refine zo_get (i := 0) o hB dX7_check_56 zf_X7_10 rfl (by decide) (rfl) ?_
            refine zo_get (i := 1) o hB dX7_check_59 zf_X7_287 rfl (by decide) (rfl) ?_
            refine zo_rw (y := nI (sp_nw (A 83))) (hR.1.1.2.2.2.2.2.trans hnw) ?_
            refine z_icmpne (tgt := 69) o dX7_check_62 (by decide) (fun c9 => ?_) (fun c9 => ?_)
            · refine z_iconst (v := 0) o dX7_check_69 (by decide) ?_
              refine z_istore_n (i := 2) (lv2 := [(2, .int 0), (1, .int (nI kq)), (0, zref B 0)]) o dX7_check_70 rfl (by decide) rfl ?_
              refine z_aload_n (j := 2) o dX7_check_71 rfl ?_
              refine zo_get (i := 0) o hB dX7_check_72 zf_X7_10 rfl (by decide) (rfl) ?_
              refine z_iconst (v := 0) o dX7_check_75 (by decide) ?_
              refine zo_put (i := 1) o hB dX7_check_76 zp_X7_287 rfl (by decide) (by decide) (Nat.le_of_ble_eq_true rfl) ?_
              refine z_iload_n (j := 0) o dX7_check_79 rfl ?_
              refine z_ifeq (tgt := 87) o dX7_check_80 (by decide) (fun c10 => ?_) (fun c10 => ?_)
              · refine z_iload_n (j := 1) o dX7_check_87 rfl ?_
                refine z_iconst (v := 1) o dX7_check_88 (by decide) ?_
                refine z_iadd o dX7_check_89 ?_
                refine zo_rw (y := nI (kq + 1)) (zn_add (rfl) (rfl)) ?_
                refine zo_rw (y := nI (1 + kq)) (by rw [Nat.add_comm]) ?_
                have hS : sq_check A = (nI (1 + kq), va_up A 83 (upd (A 83) 5 0)) := by
                  unfold sq_check;  rw [hF9, if_neg hz9, if_neg c8] <;> (try rfl)
                exact kret _ _ _ _ dX7_check_90 ⟨zu M 1 13 0, N, rfl, by rw [hS], by rw [hS]; exact hR.now (hR.1.fld (r := 1) (k := 13) (v := 5) (x := 0) (by decide)) (fun j hj => ((zFr.rf (r := 1) (M := M)).zu (i := 1) ⟨by omega, by omega⟩) j (by omega)) (fun j hj => (fun j _ => rfl : zFrN 1 N N) j (by omega)), (zHi.rf (M := M)).fr ((zFr.rf (r := 1) (M := M)).zu (i := 1) ⟨by omega, by omega⟩) (by decide)⟩
              · exact absurd c10 (by decide)
            · exact absurd ((nI_eq (a := kq) (b := sp_nw (A 83)) (by omega) (by omega)).mp c9) (by omega)
          · refine z_iinc (j := 0) (v := nI (kq + 1)) (lv2 := [(1, .int (nI (kq + 1))), (0, zref B 0)]) o dX7_check_48 rfl (zn_ofInt _) (by decide) rfl ?_
            refine z_goto (tgt := 2) o dX7_check_51 (by decide) ?_
            refine zo_lv [0, 1] rfl ?_
            exact ih (kq + 1) (by omega) (by omega) (by rw [hF9, if_neg hz9, if_pos c8])
  refine zo_lv [0, 1] rfl ?_
  exact LOOP (sp_nw (A 83)) 0 (by omega) (by omega) rfl

