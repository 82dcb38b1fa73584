/-! the class: its calls (4) -/
set_option maxHeartbeats 4000000 in
set_option maxRecDepth 100000 in
theorem k_cowIs {B : zB} (hB : znn B = 95) (M : zM) (N : zN) (A : zM) (c : Int32) (w : Int32) (hR : zRl M N A) (hok : zOkAll (A 83)) : zCi B (zg B M N) yX7_cowIs cX7_cowIs 3 (some .int) 5 [zref B 0, .int c, .int w] (fun r g' => ∃ (M1 : zM) (N1 : zN), g' = zg B M1 N1 ∧ r = (sq_cowIs A c w).1 ∧ zRl M1 N1 (sq_cowIs A c w).2 ∧ zHi M M1) := by
  refine zCi_of (by decide +kernel) (Nat.le_of_ble_eq_true rfl) .int rfl (fun _ _ _ => rfl) ?_
  intro X o kret
  show zW X B (zg B M N) 0 [(0, zref B 0), (1, .int c), (2, .int w)] []
  obtain ⟨hnf, hnf4⟩ := ok_nf2 hok.1
  obtain ⟨hnc, hnc6⟩ := ok_nc2 hok.1
  obtain ⟨hnt, hnt60⟩ := ok_nt2 hok.1
  obtain ⟨hnw, hnw24⟩ := ok_nw2 hok.1
  have hF : ∀ i, i < 4 → zFn (9 + 2 * i) M (A 83) i := fun i hi => hR.1.2.1 i hi
  refine z_aload_n (j := 0) o dX7_cowIs_0 rfl ?_
  refine z_iload_n (j := 1) o dX7_cowIs_1 rfl ?_
  refine z_callVi (As := [.int c]) (n := 1) (st := []) o dX7_cowIs_2 (c_X7_isCow hB M N A c hR hok.1) zc_X7_152 (by decide) (i := 0) (by rw [hB]; exact zsh_lt rfl (by decide)) (zg_o rfl (by decide)) rfl rfl rfl (Nat.le_of_ble_eq_true rfl) (fun r1 g2 p3 => ?_)
  obtain ⟨rfl, rfl⟩ := p3
  refine z_ifne (tgt := 14) o dX7_cowIs_5 (by decide) (fun c4 => ?_) (fun c4 => ?_)
  · have hzc := c4
    rw [hnc] at hzc
    obtain ⟨ca, hca, eca⟩ := zin_nat (by omega) hzc
    subst eca
    refine z_iload_n (j := 2) o dX7_cowIs_14 rfl ?_
    refine z_tcase 0 (tgt := 40) o dX7_cowIs_15 (by decide) (by decide) rfl (by decide) (fun c5 => ?_) (fun c5 => ?_)
    · obtain rfl : w = 0 := c5
      refine z_aload_n (j := 0) o dX7_cowIs_40 rfl ?_
      refine zo_get (i := 0) o hB dX7_cowIs_41 zf_X7_10 rfl (by decide) (rfl) ?_
      refine zo_get (i := 1) o hB dX7_cowIs_44 zf_X7_146 rfl (by decide) (rfl) ?_
      refine z_iload_n (j := 1) o dX7_cowIs_47 rfl ?_
      refine zo_iald (i := 3) (j := ca) o hB dX7_cowIs_48 rfl (show ca < 6 by omega) (by decide) ?_
      refine zo_rw (y := A 83 (58 + 2 * ca + 0)) ((hR.1.2.2.1 ca (by omega)).1) ?_
      have hS : sq_cowIs A (nI ca) 0 = ((A 83 (58 + 2 * ca + 0)), A) := by
        unfold sq_cowIs; (try rw [zn_nI (n := ca) (by omega)]); rw [if_neg c4, if_neg (show ¬ zin (0 : Int32) 0 2 = 0 by decide), if_pos (show (0 : Int32) < 2 by decide)] <;> (try rfl)
      exact kret _ _ _ _ dX7_cowIs_49 ⟨M, N, rfl, by rw [hS], by rw [hS]; exact hR, (zHi.rf (M := M))⟩
    refine z_tcase 1 (tgt := 50) o dX7_cowIs_15 (by decide) (by decide) rfl (by decide) (fun c6 => ?_) (fun c6 => ?_)
    · obtain rfl : w = 1 := c6
      refine z_aload_n (j := 0) o dX7_cowIs_50 rfl ?_
      refine zo_get (i := 0) o hB dX7_cowIs_51 zf_X7_10 rfl (by decide) (rfl) ?_
      refine zo_get (i := 1) o hB dX7_cowIs_54 zf_X7_149 rfl (by decide) (rfl) ?_
      refine z_iload_n (j := 1) o dX7_cowIs_57 rfl ?_
      refine zo_iald (i := 4) (j := ca) o hB dX7_cowIs_58 rfl (show ca < 6 by omega) (by decide) ?_
      refine zo_rw (y := A 83 (58 + 2 * ca + 1)) ((hR.1.2.2.1 ca (by omega)).2) ?_
      have hS : sq_cowIs A (nI ca) 1 = ((A 83 (58 + 2 * ca + 1)), A) := by
        unfold sq_cowIs; (try rw [zn_nI (n := ca) (by omega)]); rw [if_neg c4, if_neg (show ¬ zin (1 : Int32) 0 2 = 0 by decide), if_pos (show (1 : Int32) < 2 by decide)] <;> (try rfl)
      exact kret _ _ _ _ dX7_cowIs_59 ⟨M, N, rfl, by rw [hS], by rw [hS]; exact hR, (zHi.rf (M := M))⟩
    refine z_tcase 2 (tgt := 60) o dX7_cowIs_15 (by decide) (by decide) rfl (by decide) (fun c7 => ?_) (fun c7 => ?_)
    · obtain rfl : w = 2 := c7
      obtain ⟨cq, hcq, ecq⟩ := hok.1 _ _ (zbd_c (i := ca) (by omega))
      have ez : zn (A 83 (58 + 2 * ca)) = cq := by rw [ecq, zn_nI (by omega)]
      refine z_aload_n (j := 0) o dX7_cowIs_60 rfl ?_
      refine zo_get (i := 0) o hB dX7_cowIs_61 zf_X7_10 rfl (by decide) (rfl) ?_
      refine z_callVv (As := []) (n := 0) (st := []) o dX7_cowIs_64 (c_X3_lookInside hB M N 1 (A 83) rfl hok.1 hR.1) zc_X7_155 (by decide) (i := 1) (by rw [hB]; exact zsh_lt rfl (by decide)) (zg_o rfl (by decide)) rfl rfl rfl (Nat.le_of_ble_eq_true rfl) (fun g9 p10 => ?_)
      obtain ⟨N11, rfl, fnN11, snN11⟩ := p10
      have hRN11 : zRl M N11 A := hR.sc (hR.1.sn (N1 := N11) (fnN11 1 (by decide))) (fun _ _ => rfl) (fun j hj => fnN11 j (by omega)) (fun u hu => (hR.2.2.1 u hu).2)
      refine z_aload_n (j := 0) o dX7_cowIs_67 rfl ?_
      refine zo_get (i := 0) o hB dX7_cowIs_68 zf_X7_10 rfl (by decide) (rfl) ?_
      refine z_aload_n (j := 0) o dX7_cowIs_71 rfl ?_
      refine zo_get (i := 0) o hB dX7_cowIs_72 zf_X7_10 rfl (by decide) (rfl) ?_
      refine zo_get (i := 1) o hB dX7_cowIs_75 zf_X7_146 rfl (by decide) (rfl) ?_
      refine z_iload_n (j := 1) o dX7_cowIs_78 rfl ?_
      refine zo_iald (i := 3) (j := ca) o hB dX7_cowIs_79 rfl (show ca < 6 by omega) (by decide) ?_
      refine zo_rw (y := nI cq) (((hR.1.2.2.1 ca (by omega)).1).trans ecq) ?_
      refine z_callVi (As := [.int (nI cq)]) (n := 1) (st := []) o dX7_cowIs_80 (c_X3_brandSeen hB M N11 1 (A 83) cq rfl hok.1 hRN11.1 (by omega) snN11) zc_X7_158 (by decide) (i := 1) (by rw [hB]; exact zsh_lt rfl (by decide)) (zg_o rfl (by decide)) rfl rfl rfl (Nat.le_of_ble_eq_true rfl) (fun r12 g13 p14 => ?_)
      obtain ⟨rfl, rfl⟩ := p14
      have hS : sq_cowIs A (nI ca) 2 = ((sp_brand (A 83) cq), A) := by
        unfold sq_cowIs; (try rw [zn_nI (n := ca) (by omega)]); rw [if_neg c4, if_neg (show ¬ zin (2 : Int32) 0 2 = 0 by decide), if_neg (show ¬ (2 : Int32) < 2 by decide), ez] <;> (try rfl)
      exact kret _ _ _ _ dX7_cowIs_83 ⟨M, N11, rfl, by rw [hS], by rw [hS]; exact hRN11, (zHi.rf (M := M))⟩
    refine z_tdef (tgt := 84) o dX7_cowIs_15 (by have := lv_neT (a := 0) c5 rfl; have := lv_neT (a := 1) c6 rfl; have := lv_neT (a := 2) c7 rfl; omega) (by decide) ?_
    refine z_aload_n (j := 0) o dX7_cowIs_84 rfl ?_
    refine z_iconst (v := 1) o dX7_cowIs_85 (by decide) ?_
    refine z_callVi (As := [.int 1]) (n := 1) (st := []) o dX7_cowIs_86 (c_X7_error hB M N 1 (by decide) (by decide)) zc_X7_54 (by decide) (i := 0) (by rw [hB]; exact zsh_lt rfl (by decide)) (zg_o rfl (by decide)) rfl rfl rfl (Nat.le_of_ble_eq_true rfl) (fun r15 g16 p17 => ?_)
    obtain ⟨rfl, rfl⟩ := p17
    have hS : sq_cowIs A (nI ca) w = ((zE 1), zEr A 1) := by
      unfold sq_cowIs; (try rw [zn_nI (n := ca) (by omega)]); rw [if_neg c4, if_pos (zin_sw (n := 2) rfl (by decide) (fun k hk q => by rcases (show k = 0 ∨ k = 1 ∨ k = 2 by omega) with rfl | rfl | rfl <;> first | exact c5 q | exact c6 q | exact c7 q))] <;> (try rfl)
    exact kret _ _ _ _ dX7_cowIs_89 ⟨zu M 73 1 (M 73 1 + 1), N, rfl, by rw [hS], by rw [hS]; exact (hR).er (k := 1) (by decide), ((zHi.rf (M := M))).zu (by decide)⟩
  · refine z_aload_n (j := 0) o dX7_cowIs_8 rfl ?_
    refine z_iconst (v := 1) o dX7_cowIs_9 (by decide) ?_
    refine z_callVi (As := [.int 1]) (n := 1) (st := []) o dX7_cowIs_10 (c_X7_error hB M N 1 (by decide) (by decide)) zc_X7_54 (by decide) (i := 0) (by rw [hB]; exact zsh_lt rfl (by decide)) (zg_o rfl (by decide)) rfl rfl rfl (Nat.le_of_ble_eq_true rfl) (fun r18 g19 p20 => ?_)
    obtain ⟨rfl, rfl⟩ := p20
    have hS : sq_cowIs A c w = ((zE 1), zEr A 1) := by
      unfold sq_cowIs;  rw [if_pos c4] <;> (try rfl)
    exact kret _ _ _ _ dX7_cowIs_13 ⟨zu M 73 1 (M 73 1 + 1), N, rfl, by rw [hS], by rw [hS]; exact (hR).er (k := 1) (by decide), ((zHi.rf (M := M))).zu (by decide)⟩

set_option maxHeartbeats 4000000 in
set_option maxRecDepth 100000 in
theorem k_untell {B : zB} (hB : znn B = 95) (M : zM) (N : zN) (A : zM) (u : Int32) (hR : zRl M N A) (hok : zOkAll (A 83)) : zCi B (zg B M N) yX7_untell cX7_untell 3 (some .int) 1 [zref B 0, .int u] (fun r g' => ∃ (M1 : zM) (N1 : zN), g' = zg B M1 N1 ∧ r = (sq_untell A u).1 ∧ zRl M1 N1 (sq_untell A u).2 ∧ zHi M M1) := by
  refine zCi_of (by decide +kernel) (Nat.le_of_ble_eq_true rfl) .int rfl (fun _ _ _ => rfl) ?_
  intro X o kret
  show zW X B (zg B M N) 0 [(0, zref B 0), (1, .int u)] []
  obtain ⟨hnf, hnf4⟩ := ok_nf2 hok.1
  obtain ⟨hnc, hnc6⟩ := ok_nc2 hok.1
  obtain ⟨hnt, hnt60⟩ := ok_nt2 hok.1
  obtain ⟨hnw, hnw24⟩ := ok_nw2 hok.1
  have hF : ∀ i, i < 4 → zFn (9 + 2 * i) M (A 83) i := fun i hi => hR.1.2.1 i hi
  refine z_iload_n (j := 1) o dX7_untell_0 rfl ?_
  refine z_callSi (As := [.int u]) (n := 1) (st := []) o dX7_untell_1 (c_X7_isUse hB M N u) zc_X7_168 (by decide) rfl rfl (Nat.le_of_ble_eq_true rfl) (fun r1 g2 p3 => ?_)
  obtain ⟨rfl, rfl⟩ := p3
  refine z_ifne (tgt := 13) o dX7_untell_4 (by decide) (fun c4 => ?_) (fun c4 => ?_)
  · obtain ⟨ua, hua, eua⟩ := zin_lit (n := 1) rfl (by decide) c4
    subst eua
    refine z_aload_n (j := 0) o dX7_untell_13 rfl ?_
    refine zo_get (i := 0) o hB dX7_untell_14 zf_X7_10 rfl (by decide) (rfl) ?_
    refine zo_get (i := 1) o hB dX7_untell_17 zf_X7_181 rfl (by decide) (rfl) ?_
    obtain ⟨hLu, hLu60, -⟩ := zOkAll_u hok (u := ua) (by omega)
    have hlw := hR.1.2.2.2.2.2.2.2 ua (by omega)
    refine z_iload_n (j := 1) o dX7_untell_20 rfl ?_
    refine zo_aldL (i := 6) (j := ua) o hB dX7_untell_21 rfl (show ua < 2 by omega) (by decide) ?_
    refine zo_get (i := 17 + 3 * ua) o hB dX7_untell_22 zf_X7_195 ((zh_R (r := 1) rfl).2.2.2.2.2.2.2.2.1 ua (by omega)) (by decide) (rfl) ?_
    refine zo_rw (y := nI (sp_len (A 83) ua)) (hlw.2.1.trans hLu) ?_
    refine z_ifle (tgt := 32) o dX7_untell_25 (by decide) (fun c5 => ?_) (fun c5 => ?_)
    · refine z_iconst (v := 0) o dX7_untell_32 (by decide) ?_
      refine z_istore_n (i := 2) (lv2 := [(2, .int 0), (0, zref B 0), (1, .int (nI ua))]) o dX7_untell_33 rfl (by decide) rfl ?_
      refine z_aload_n (j := 1) o dX7_untell_34 rfl ?_
      refine zo_get (i := 0) o hB dX7_untell_35 zf_X7_10 rfl (by decide) (rfl) ?_
      refine zo_get (i := 1) o hB dX7_untell_38 zf_X7_181 rfl (by decide) (rfl) ?_
      refine z_iload_n (j := 2) o dX7_untell_41 rfl ?_
      refine zo_aldL (i := 6) (j := ua) o hB dX7_untell_42 rfl (show ua < 2 by omega) (by decide) ?_
      refine z_iconst (v := 0) o dX7_untell_43 (by decide) ?_
      refine zo_put (i := 17 + 3 * ua) o hB dX7_untell_44 zp_X7_195 ((zh_R (r := 1) rfl).2.2.2.2.2.2.2.2.1 ua (by omega)) (by decide) (by decide) (Nat.le_of_ble_eq_true rfl) ?_
      refine z_iload_n (j := 0) o dX7_untell_47 rfl ?_
      have hS : sq_untell A (nI ua) = (0, va_up A 83 (upd (A 83) (282 + 121 * ua) 0)) := by
        unfold sq_untell; (try rw [zn_nI (n := ua) (by omega)]); rw [if_neg c4, if_neg (show ¬ 0 < A 83 (282 + 121 * ua) by rw [hLu]; exact c5)] <;> (try rfl)
      exact kret _ _ _ _ dX7_untell_48 ⟨zu M (17 + 3 * ua) 3 0, N, rfl, by rw [hS], by rw [hS]; exact hR.now (hR.1.law (r := 1) (fun u hu => (zOkAll_u hok hu).2.1) (u := ua) (by omega) (fun j a _ => zu_ne a) hlw.zero (fun k hk => upd_ne (by omega))) (fun j hj => ((zFr.rf (r := 1) (M := M)).zu (i := 17 + 3 * ua) ⟨by omega, by omega⟩) j (by omega)) (fun j hj => (fun j _ => rfl : zFrN 1 N N) j (by omega)), (zHi.rf (M := M)).fr ((zFr.rf (r := 1) (M := M)).zu (i := 17 + 3 * ua) ⟨by omega, by omega⟩) (by decide)⟩
    · refine z_iconst (v := 1) o dX7_untell_28 (by decide) ?_
      refine z_goto (tgt := 33) o dX7_untell_29 (by decide) ?_
      refine z_istore_n (i := 2) (lv2 := [(2, .int 1), (0, zref B 0), (1, .int (nI ua))]) o dX7_untell_33 rfl (by decide) rfl ?_
      refine z_aload_n (j := 1) o dX7_untell_34 rfl ?_
      refine zo_get (i := 0) o hB dX7_untell_35 zf_X7_10 rfl (by decide) (rfl) ?_
      refine zo_get (i := 1) o hB dX7_untell_38 zf_X7_181 rfl (by decide) (rfl) ?_
      refine z_iload_n (j := 2) o dX7_untell_41 rfl ?_
      refine zo_aldL (i := 6) (j := ua) o hB dX7_untell_42 rfl (show ua < 2 by omega) (by decide) ?_
      refine z_iconst (v := 0) o dX7_untell_43 (by decide) ?_
      refine zo_put (i := 17 + 3 * ua) o hB dX7_untell_44 zp_X7_195 ((zh_R (r := 1) rfl).2.2.2.2.2.2.2.2.1 ua (by omega)) (by decide) (by decide) (Nat.le_of_ble_eq_true rfl) ?_
      refine z_iload_n (j := 0) o dX7_untell_47 rfl ?_
      have hS : sq_untell A (nI ua) = (1, va_up A 83 (upd (A 83) (282 + 121 * ua) 0)) := by
        unfold sq_untell; (try rw [zn_nI (n := ua) (by omega)]); rw [if_neg c4, if_pos (show 0 < A 83 (282 + 121 * ua) by rw [hLu]; exact c5)] <;> (try rfl)
      exact kret _ _ _ _ dX7_untell_48 ⟨zu M (17 + 3 * ua) 3 0, N, rfl, by rw [hS], by rw [hS]; exact hR.now (hR.1.law (r := 1) (fun u hu => (zOkAll_u hok hu).2.1) (u := ua) (by omega) (fun j a _ => zu_ne a) hlw.zero (fun k hk => upd_ne (by omega))) (fun j hj => ((zFr.rf (r := 1) (M := M)).zu (i := 17 + 3 * ua) ⟨by omega, by omega⟩) j (by omega)) (fun j hj => (fun j _ => rfl : zFrN 1 N N) j (by omega)), (zHi.rf (M := M)).fr ((zFr.rf (r := 1) (M := M)).zu (i := 17 + 3 * ua) ⟨by omega, by omega⟩) (by decide)⟩
  · refine z_aload_n (j := 0) o dX7_untell_7 rfl ?_
    refine z_iconst (v := 1) o dX7_untell_8 (by decide) ?_
    refine z_callVi (As := [.int 1]) (n := 1) (st := []) o dX7_untell_9 (c_X7_error hB M N 1 (by decide) (by decide)) zc_X7_54 (by decide) (i := 0) (by rw [hB]; exact zsh_lt rfl (by decide)) (zg_o rfl (by decide)) rfl rfl rfl (Nat.le_of_ble_eq_true rfl) (fun r6 g7 p8 => ?_)
    obtain ⟨rfl, rfl⟩ := p8
    have hS : sq_untell A u = ((zE 1), zEr A 1) := by
      unfold sq_untell;  rw [if_pos c4] <;> (try rfl)
    exact kret _ _ _ _ dX7_untell_12 ⟨zu M 73 1 (M 73 1 + 1), N, rfl, by rw [hS], by rw [hS]; exact (hR).er (k := 1) (by decide), ((zHi.rf (M := M))).zu (by decide)⟩

set_option maxHeartbeats 4000000 in
set_option maxRecDepth 100000 in
theorem k_law {B : zB} (hB : znn B = 95) (M : zM) (N : zN) (A : zM) (u : Int32) (a : Int32) (b : Int32) (c : Int32) (hR : zRl M N A) (hok : zOkAll (A 83)) : zCi B (zg B M N) yX7_law cX7_law 5 (some .int) 4 [zref B 0, .int u, .int a, .int b, .int c] (fun r g' => ∃ (M1 : zM) (N1 : zN), g' = zg B M1 N1 ∧ r = (sq_law A u a b c).1 ∧ zRl M1 N1 (sq_law A u a b c).2 ∧ zHi M M1) := by
  refine zCi_of (by decide +kernel) (Nat.le_of_ble_eq_true rfl) .int rfl (fun _ _ _ => rfl) ?_
  intro X o kret
  show zW X B (zg B M N) 0 [(0, zref B 0), (1, .int u), (2, .int a), (3, .int b), (4, .int c)] []
  obtain ⟨hnf, hnf4⟩ := ok_nf2 hok.1
  obtain ⟨hnc, hnc6⟩ := ok_nc2 hok.1
  obtain ⟨hnt, hnt60⟩ := ok_nt2 hok.1
  obtain ⟨hnw, hnw24⟩ := ok_nw2 hok.1
  have hF : ∀ i, i < 4 → zFn (9 + 2 * i) M (A 83) i := fun i hi => hR.1.2.1 i hi
  refine z_iload_n (j := 1) o dX7_law_0 rfl ?_
  refine z_callSi (As := [.int u]) (n := 1) (st := []) o dX7_law_1 (c_X7_isUse hB M N u) zc_X7_168 (by decide) rfl rfl (Nat.le_of_ble_eq_true rfl) (fun r1 g2 p3 => ?_)
  obtain ⟨rfl, rfl⟩ := p3
  refine z_ifne (tgt := 13) o dX7_law_4 (by decide) (fun c4 => ?_) (fun c4 => ?_)
  · obtain ⟨ua, hua, eua⟩ := zin_lit (n := 1) rfl (by decide) c4
    subst eua
    refine z_aload_n (j := 0) o dX7_law_13 rfl ?_
    refine zo_get (i := 0) o hB dX7_law_14 zf_X7_10 rfl (by decide) (rfl) ?_
    refine zo_get (i := 1) o hB dX7_law_17 zf_X7_181 rfl (by decide) (rfl) ?_
    refine z_iload_n (j := 1) o dX7_law_20 rfl ?_
    refine zo_aldL (i := 6) (j := ua) o hB dX7_law_21 rfl (show ua < 2 by omega) (by decide) ?_
    refine z_iload_n (j := 2) o dX7_law_22 rfl ?_
    refine z_iload_n (j := 3) o dX7_law_23 rfl ?_
    refine z_iload (j := 4) o dX7_law_24 rfl ?_
    refine z_callVi (As := [.int a, .int b, .int c]) (n := 3) (st := []) o dX7_law_26 (c_X2_gives hB M N (17 + 3 * ua) ua (A 83) a b c ((zh_R (r := 1) rfl).2.2.2.2.2.2.2.2.1 ua (by omega)) (by omega) hok (hR.1.2.2.2.2.2.2.2 ua (by omega))) zc_X7_196 (by decide) (i := 17 + 3 * ua) (by rw [hB]; exact zsh_lt ((zh_R (r := 1) rfl).2.2.2.2.2.2.2.2.1 ua (by omega)) (by decide)) (zg_o ((zh_R (r := 1) rfl).2.2.2.2.2.2.2.2.1 ua (by omega)) (by decide)) rfl rfl rfl (Nat.le_of_ble_eq_true rfl) (fun r5 g6 p7 => ?_)
    obtain ⟨P8, rfl, rfl⟩ := p7
    have hRP8 : zRl (va_up M (17 + 3 * ua + 1) P8) N A := hR.sc (hR.1.pile (r := 1) (u := ua) (P := P8) (by omega)) (fun j hj => va_up_ne _ _ (by omega)) (fun _ _ => rfl) (fun u hu => by rw [va_up_ne _ _ (by omega)]; exact (hR.2.2.1 u hu).2)
    have hS : sq_law A (nI ua) a b c = ((sp_gives (A 83) ua a b c), A) := by
      unfold sq_law; (try rw [zn_nI (n := ua) (by omega)]); rw [if_neg c4] <;> (try rfl)
    exact kret _ _ _ _ dX7_law_29 ⟨va_up M (17 + 3 * ua + 1) P8, N, rfl, by rw [hS], by rw [hS]; exact hRP8, ((zHi.rf (M := M)).va (i := 17 + 3 * ua + 1) (by omega))⟩
  · refine z_aload_n (j := 0) o dX7_law_7 rfl ?_
    refine z_iconst (v := 1) o dX7_law_8 (by decide) ?_
    refine z_callVi (As := [.int 1]) (n := 1) (st := []) o dX7_law_9 (c_X7_error hB M N 1 (by decide) (by decide)) zc_X7_54 (by decide) (i := 0) (by rw [hB]; exact zsh_lt rfl (by decide)) (zg_o rfl (by decide)) rfl rfl rfl (Nat.le_of_ble_eq_true rfl) (fun r9 g10 p11 => ?_)
    obtain ⟨rfl, rfl⟩ := p11
    have hS : sq_law A u a b c = ((zE 1), zEr A 1) := by
      unfold sq_law;  rw [if_pos c4] <;> (try rfl)
    exact kret _ _ _ _ dX7_law_12 ⟨zu M 73 1 (M 73 1 + 1), N, rfl, by rw [hS], by rw [hS]; exact (hR).er (k := 1) (by decide), ((zHi.rf (M := M))).zu (by decide)⟩

set_option maxHeartbeats 4000000 in
set_option maxRecDepth 100000 in
theorem k_dawns {B : zB} (hB : znn B = 95) (M : zM) (N : zN) (A : zM) (n : Int32) (hR : zRl M N A) (hok : zOkAll (A 83)) : zCi B (zg B M N) yX7_dawns cX7_dawns 2 (some .int) 7 [zref B 0, .int n] (fun r g' => ∃ (M1 : zM) (N1 : zN), g' = zg B M1 N1 ∧ r = (sq_dawns A n).1 ∧ zRl M1 N1 (sq_dawns A n).2 ∧ zHi M M1) := by
  refine zCi_of (by decide +kernel) (Nat.le_of_ble_eq_true rfl) .int rfl (fun _ _ _ => rfl) ?_
  intro X o kret
  show zW X B (zg B M N) 0 [(0, zref B 0), (1, .int n)] []
  obtain ⟨hnf, hnf4⟩ := ok_nf2 hok.1
  obtain ⟨hnc, hnc6⟩ := ok_nc2 hok.1
  obtain ⟨hnt, hnt60⟩ := ok_nt2 hok.1
  obtain ⟨hnw, hnw24⟩ := ok_nw2 hok.1
  have hF : ∀ i, i < 4 → zFn (9 + 2 * i) M (A 83) i := fun i hi => hR.1.2.1 i hi
  refine z_iload_n (j := 1) o dX7_dawns_0 rfl ?_
  refine z_iconst (v := 1) o dX7_dawns_1 (by decide) ?_
  refine z_icmplt (tgt := 11) o dX7_dawns_2 (by decide) (fun c1 => ?_) (fun c1 => ?_)
  · refine z_aload_n (j := 0) o dX7_dawns_11 rfl ?_
    refine z_iconst (v := 1) o dX7_dawns_12 (by decide) ?_
    refine z_callVi (As := [.int 1]) (n := 1) (st := []) o dX7_dawns_13 (c_X7_error hB M N 1 (by decide) (by decide)) zc_X7_54 (by decide) (i := 0) (by rw [hB]; exact zsh_lt rfl (by decide)) (zg_o rfl (by decide)) rfl rfl rfl (Nat.le_of_ble_eq_true rfl) (fun r2 g3 p4 => ?_)
    obtain ⟨rfl, rfl⟩ := p4
    have hS : sq_dawns A n = ((zE 1), zEr A 1) := by
      unfold sq_dawns;  rw [if_pos (zin_lo c1)] <;> (try rfl)
    exact kret _ _ _ _ dX7_dawns_16 ⟨zu M 73 1 (M 73 1 + 1), N, rfl, by rw [hS], by rw [hS]; exact (hR).er (k := 1) (by decide), ((zHi.rf (M := M))).zu (by decide)⟩
  · refine z_iload_n (j := 1) o dX7_dawns_5 rfl ?_
    refine z_bipush (v := 60) o dX7_dawns_6 (by decide) ?_
    refine z_icmple (tgt := 17) o dX7_dawns_8 (by decide) (fun c5 => ?_) (fun c5 => ?_)
    · obtain ⟨na, lna, hna, ena⟩ := zin_rng (lo := 1) (n := 60) rfl rfl (by decide) (zin_in c1 c5)
      subst ena
      refine z_aload_n (j := 0) o dX7_dawns_17 rfl ?_
      refine zo_get (i := 0) o hB dX7_dawns_18 zf_X7_10 rfl (by decide) (rfl) ?_
      refine zo_get (i := 1) o hB dX7_dawns_21 zf_X7_116 rfl (by decide) (rfl) ?_
      refine zo_rw (y := A 83 0) (hR.1.1.2.2.1) ?_
      refine z_iload_n (j := 1) o dX7_dawns_24 rfl ?_
      refine z_iadd o dX7_dawns_25 ?_
      refine z_sipush (v := 9999) o dX7_dawns_26 (by decide) ?_
      refine z_icmple (tgt := 38) o dX7_dawns_29 (by decide) (fun c6 => ?_) (fun c6 => ?_)
      · refine z_aload_n (j := 0) o dX7_dawns_38 rfl ?_
        refine zo_get (i := 0) o hB dX7_dawns_39 zf_X7_10 rfl (by decide) (rfl) ?_
        refine z_iload_n (j := 1) o dX7_dawns_42 rfl ?_
        refine z_callVv (As := [.int (nI na)]) (n := 1) (st := []) o dX7_dawns_43 (c_X3_dawnsCome hB M N 1 na (A 83) rfl hok hR.1 (by omega)) zc_X7_200 (by decide) (i := 1) (by rw [hB]; exact zsh_lt rfl (by decide)) (zg_o rfl (by decide)) rfl rfl rfl (Nat.le_of_ble_eq_true rfl) (fun g8 p9 => ?_)
        obtain ⟨M10, NM10, rfl, fM10, fnM10, gM10⟩ := p9
        refine z_aload_n (j := 0) o dX7_dawns_46 rfl ?_
        refine zo_get (i := 0) o hB dX7_dawns_47 zf_X7_10 rfl (by decide) (rfl) ?_
        refine zo_get (i := 1) o hB dX7_dawns_50 zf_X7_116 rfl (by decide) (rfl) ?_
        refine zo_rw (y := sp_goesN (A 83) na 0) (gM10.1.2.2.1) ?_
        have hS : sq_dawns A (nI na) = ((sp_goesN (A 83) na 0), va_up A 83 (sp_goesN (A 83) na)) := by
          unfold sq_dawns; (try rw [zn_nI (n := na) (by omega)]); rw [if_neg (zin_in c1 c5), if_neg c6] <;> (try rfl)
        exact kret _ _ _ _ dX7_dawns_53 ⟨M10, NM10, rfl, by rw [hS], by rw [hS]; exact hR.now gM10 (fun j hj => fM10 j (by omega)) (fun j hj => fnM10 j (by omega)), (zHi.rf (M := M)).fr fM10 (by decide)⟩
      · refine z_aload_n (j := 0) o dX7_dawns_32 rfl ?_
        refine z_iconst (v := 3) o dX7_dawns_33 (by decide) ?_
        refine z_callVi (As := [.int 3]) (n := 1) (st := []) o dX7_dawns_34 (c_X7_error hB M N 3 (by decide) (by decide)) zc_X7_54 (by decide) (i := 0) (by rw [hB]; exact zsh_lt rfl (by decide)) (zg_o rfl (by decide)) rfl rfl rfl (Nat.le_of_ble_eq_true rfl) (fun r11 g12 p13 => ?_)
        obtain ⟨rfl, rfl⟩ := p13
        have hS : sq_dawns A (nI na) = ((zE 3), zEr A 3) := by
          unfold sq_dawns; (try rw [zn_nI (n := na) (by omega)]); rw [if_neg (zin_in c1 c5), if_pos c6] <;> (try rfl)
        exact kret _ _ _ _ dX7_dawns_37 ⟨zu M 73 3 (M 73 3 + 1), N, rfl, by rw [hS], by rw [hS]; exact (hR).er (k := 3) (by decide), ((zHi.rf (M := M))).zu (by decide)⟩
    · refine z_aload_n (j := 0) o dX7_dawns_11 rfl ?_
      refine z_iconst (v := 1) o dX7_dawns_12 (by decide) ?_
      refine z_callVi (As := [.int 1]) (n := 1) (st := []) o dX7_dawns_13 (c_X7_error hB M N 1 (by decide) (by decide)) zc_X7_54 (by decide) (i := 0) (by rw [hB]; exact zsh_lt rfl (by decide)) (zg_o rfl (by decide)) rfl rfl rfl (Nat.le_of_ble_eq_true rfl) (fun r14 g15 p16 => ?_)
      obtain ⟨rfl, rfl⟩ := p16
      have hS : sq_dawns A n = ((zE 1), zEr A 1) := by
        unfold sq_dawns;  rw [if_pos (zin_hi c5)] <;> (try rfl)
      exact kret _ _ _ _ dX7_dawns_16 ⟨zu M 73 1 (M 73 1 + 1), N, rfl, by rw [hS], by rw [hS]; exact (hR).er (k := 1) (by decide), ((zHi.rf (M := M))).zu (by decide)⟩

set_option maxHeartbeats 4000000 in
set_option maxRecDepth 100000 in
theorem k_land {B : zB} (hB : znn B = 95) (M : zM) (N : zN) (A : zM) (f : Int32) (w : Int32) (hR : zRl M N A) (hok : zOkAll (A 83)) : zCl B (zg B M N) yX7_land cX7_land 3 (some .long) 4 [zref B 0, .int f, .int w] (fun r g' => ∃ (M1 : zM) (N1 : zN), g' = zg B M1 N1 ∧ r = (sq_land A f w).1 ∧ zRl M1 N1 (sq_land A f w).2 ∧ zHi M M1) := by
  refine zCl_of (by decide +kernel) (Nat.le_of_ble_eq_true rfl) ?_
  intro X o kret
  show zW X B (zg B M N) 0 [(0, zref B 0), (1, .int f), (2, .int w)] []
  obtain ⟨hnf, hnf4⟩ := ok_nf2 hok.1
  obtain ⟨hnc, hnc6⟩ := ok_nc2 hok.1
  obtain ⟨hnt, hnt60⟩ := ok_nt2 hok.1
  obtain ⟨hnw, hnw24⟩ := ok_nw2 hok.1
  have hF : ∀ i, i < 4 → zFn (9 + 2 * i) M (A 83) i := fun i hi => hR.1.2.1 i hi
  refine z_aload_n (j := 0) o dX7_land_0 rfl ?_
  refine z_iload_n (j := 1) o dX7_land_1 rfl ?_
  refine z_callVi (As := [.int f]) (n := 1) (st := []) o dX7_land_2 (c_X7_isFence hB M N A f hR hok.1) zc_X7_72 (by decide) (i := 0) (by rw [hB]; exact zsh_lt rfl (by decide)) (zg_o rfl (by decide)) rfl rfl rfl (Nat.le_of_ble_eq_true rfl) (fun r1 g2 p3 => ?_)
  obtain ⟨rfl, rfl⟩ := p3
  refine z_ifeq (tgt := 17) o dX7_land_5 (by decide) (fun c4 => ?_) (fun c4 => ?_)
  · refine z_aload_n (j := 0) o dX7_land_17 rfl ?_
    refine z_iconst (v := 1) o dX7_land_18 (by decide) ?_
    refine z_callVi (As := [.int 1]) (n := 1) (st := []) o dX7_land_19 (c_X7_error hB M N 1 (by decide) (by decide)) zc_X7_54 (by decide) (i := 0) (by rw [hB]; exact zsh_lt rfl (by decide)) (zg_o rfl (by decide)) rfl rfl rfl (Nat.le_of_ble_eq_true rfl) (fun r5 g6 p7 => ?_)
    obtain ⟨rfl, rfl⟩ := p7
    refine z_i2l o dX7_land_22 ?_
    have hS : sq_land A f w = (((zE 1).toInt64), zEr A 1) := by
      unfold sq_land;  rw [if_pos c4] <;> (try rfl)
    exact kret _ _ _ _ dX7_land_23 ⟨zu M 73 1 (M 73 1 + 1), N, rfl, by rw [hS], by rw [hS]; exact (hR).er (k := 1) (by decide), ((zHi.rf (M := M))).zu (by decide)⟩
  · have hzf := c4
    rw [hnf] at hzf
    obtain ⟨fa, hfa, efa⟩ := zin_nat (by omega) hzf
    subst efa
    obtain ⟨hnpfa, hnp8⟩ := ok_np2 hok.1 (i := fa) (by omega)
    refine z_iload_n (j := 2) o dX7_land_8 rfl ?_
    refine z_iflt (tgt := 17) o dX7_land_9 (by decide) (fun c8 => ?_) (fun c8 => ?_)
    · refine z_aload_n (j := 0) o dX7_land_17 rfl ?_
      refine z_iconst (v := 1) o dX7_land_18 (by decide) ?_
      refine z_callVi (As := [.int 1]) (n := 1) (st := []) o dX7_land_19 (c_X7_error hB M N 1 (by decide) (by decide)) zc_X7_54 (by decide) (i := 0) (by rw [hB]; exact zsh_lt rfl (by decide)) (zg_o rfl (by decide)) rfl rfl rfl (Nat.le_of_ble_eq_true rfl) (fun r9 g10 p11 => ?_)
      obtain ⟨rfl, rfl⟩ := p11
      refine z_i2l o dX7_land_22 ?_
      have hS : sq_land A (nI fa) w = (((zE 1).toInt64), zEr A 1) := by
        unfold sq_land; (try rw [zn_nI (n := fa) (by omega)]); rw [if_neg c4, if_pos (zin_lo c8)] <;> (try rfl)
      exact kret _ _ _ _ dX7_land_23 ⟨zu M 73 1 (M 73 1 + 1), N, rfl, by rw [hS], by rw [hS]; exact (hR).er (k := 1) (by decide), ((zHi.rf (M := M))).zu (by decide)⟩
    · refine z_iload_n (j := 2) o dX7_land_12 rfl ?_
      refine z_iconst (v := 1) o dX7_land_13 (by decide) ?_
      refine z_icmple (tgt := 24) o dX7_land_14 (by decide) (fun c12 => ?_) (fun c12 => ?_)
      · refine z_iload_n (j := 2) o dX7_land_24 rfl ?_
        refine z_ifne (tgt := 43) o dX7_land_25 (by decide) (fun c13 => ?_) (fun c13 => ?_)
        · have hbw : w = 1 := two_one (zin_in c8 c12) c13
          obtain rfl : w = 1 := hbw
          refine z_aload_n (j := 0) o dX7_land_43 rfl ?_
          refine zo_get (i := 0) o hB dX7_land_44 zf_X7_10 rfl (by decide) (rfl) ?_
          refine zo_get (i := 1) o hB dX7_land_47 zf_X7_62 rfl (by decide) (rfl) ?_
          refine z_iload_n (j := 1) o dX7_land_50 rfl ?_
          refine zo_aldF (i := 2) (j := fa) o hB dX7_land_51 rfl (show fa < 4 by omega) (by decide) ?_
          refine z_callVl (As := []) (n := 0) (st := []) o dX7_land_52 (c_X0_inside hB M N (9 + 2 * fa) fa (A 83) ((zh_R (r := 1) rfl).2.2.2.2.2.2.2.1 fa (by omega)) (by omega) hok.1 (hF fa (by omega))) zc_X7_98 (by decide) (i := 9 + 2 * fa) (by rw [hB]; exact zsh_lt ((zh_R (r := 1) rfl).2.2.2.2.2.2.2.1 fa (by omega)) (by decide)) (zg_o ((zh_R (r := 1) rfl).2.2.2.2.2.2.2.1 fa (by omega)) (by decide)) rfl rfl rfl (Nat.le_of_ble_eq_true rfl) (fun r14 g15 p16 => ?_)
          obtain ⟨rfl, rfl⟩ := p16
          have hS : sq_land A (nI fa) 1 = ((sp_ins (A 83) fa), A) := by
            unfold sq_land; (try rw [zn_nI (n := fa) (by omega)]); rw [if_neg c4, if_neg (zin_in c8 c12), if_neg (show ¬ (1 : Int32) = 0 by decide)] <;> (try rfl)
          exact kret _ _ _ _ dX7_land_55 ⟨M, N, rfl, by rw [hS], by rw [hS]; exact hR, (zHi.rf (M := M))⟩
        · obtain rfl : w = 0 := c13
          refine z_aload_n (j := 0) o dX7_land_28 rfl ?_
          refine zo_get (i := 0) o hB dX7_land_29 zf_X7_10 rfl (by decide) (rfl) ?_
          refine zo_get (i := 1) o hB dX7_land_32 zf_X7_62 rfl (by decide) (rfl) ?_
          refine z_iload_n (j := 1) o dX7_land_35 rfl ?_
          refine zo_aldF (i := 2) (j := fa) o hB dX7_land_36 rfl (show fa < 4 by omega) (by decide) ?_
          refine z_callVl (As := []) (n := 0) (st := []) o dX7_land_37 (c_X0_standing hB M N (9 + 2 * fa) fa (A 83) ((zh_R (r := 1) rfl).2.2.2.2.2.2.2.1 fa (by omega)) (by omega) hok.1 (hF fa (by omega))) zc_X7_210 (by decide) (i := 9 + 2 * fa) (by rw [hB]; exact zsh_lt ((zh_R (r := 1) rfl).2.2.2.2.2.2.2.1 fa (by omega)) (by decide)) (zg_o ((zh_R (r := 1) rfl).2.2.2.2.2.2.2.1 fa (by omega)) (by decide)) rfl rfl rfl (Nat.le_of_ble_eq_true rfl) (fun r17 g18 p19 => ?_)
          obtain ⟨rfl, rfl⟩ := p19
          refine z_goto (tgt := 55) o dX7_land_40 (by decide) ?_
          have hS : sq_land A (nI fa) 0 = ((sp_pset (A 83) fa), A) := by
            unfold sq_land; (try rw [zn_nI (n := fa) (by omega)]); rw [if_neg c4, if_neg (zin_in c8 c12), if_pos rfl] <;> (try rfl)
          exact kret _ _ _ _ dX7_land_55 ⟨M, N, rfl, by rw [hS], by rw [hS]; exact hR, (zHi.rf (M := M))⟩
      · refine z_aload_n (j := 0) o dX7_land_17 rfl ?_
        refine z_iconst (v := 1) o dX7_land_18 (by decide) ?_
        refine z_callVi (As := [.int 1]) (n := 1) (st := []) o dX7_land_19 (c_X7_error hB M N 1 (by decide) (by decide)) zc_X7_54 (by decide) (i := 0) (by rw [hB]; exact zsh_lt rfl (by decide)) (zg_o rfl (by decide)) rfl rfl rfl (Nat.le_of_ble_eq_true rfl) (fun r20 g21 p22 => ?_)
        obtain ⟨rfl, rfl⟩ := p22
        refine z_i2l o dX7_land_22 ?_
        have hS : sq_land A (nI fa) w = (((zE 1).toInt64), zEr A 1) := by
          unfold sq_land; (try rw [zn_nI (n := fa) (by omega)]); rw [if_neg c4, if_pos (zin_hi c12)] <;> (try rfl)
        exact kret _ _ _ _ dX7_land_23 ⟨zu M 73 1 (M 73 1 + 1), N, rfl, by rw [hS], by rw [hS]; exact (hR).er (k := 1) (by decide), ((zHi.rf (M := M))).zu (by decide)⟩

