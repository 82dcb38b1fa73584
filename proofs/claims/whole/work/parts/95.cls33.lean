/-! the class: its calls (7) -/
theorem rd_lt {ρ : Nat → Int32} {u : Nat} (hok : zOkR ρ) : (sp_rd ρ u).2.1 < 2 ^ 31 := by
  have h := (sp_ps_inv (lk := sp_lk ρ) (nm := sp_nm u) (T := sp_nt ρ) (fun h q => sp_lk_T h q) (sp_nm_m1 u) 1000 0 0 (true, 0, []) (Nat.zero_le _)).2.1
  have h2 := (ok_nt2 hok).2
  have h : (sp_rd ρ u).2.1 ≤ sp_nt ρ := h
  omega
set_option maxHeartbeats 4000000 in
set_option maxRecDepth 100000 in
theorem k_text {B : zB} (hB : znn B = 95) (M : zM) (N : zN) (A : zM) (u : Int32) (hR : zRl M N A) (hok : zOkAll (A 83)) : zCi B (zg B M N) yX7_text cX7_text 3 (some .int) 52 [zref B 0, .int u] (fun r g' => ∃ (M1 : zM) (N1 : zN), g' = zg B M1 N1 ∧ r = (sq_text A u).1 ∧ zRl M1 N1 (sq_text A u).2 ∧ zHi M M1) := by
  refine zCi_of (by decide +kernel) (Nat.le_of_ble_eq_true rfl) .int rfl (fun _ _ _ => rfl) ?_
  intro X o kret
  show zW X B (zg B M N) 0 [(0, zref B 0), (1, .int u)] []
  obtain ⟨hnf, hnf4⟩ := ok_nf2 hok.1
  obtain ⟨hnc, hnc6⟩ := ok_nc2 hok.1
  obtain ⟨hnt, hnt60⟩ := ok_nt2 hok.1
  obtain ⟨hnw, hnw24⟩ := ok_nw2 hok.1
  have hF : ∀ i, i < 4 → zFn (9 + 2 * i) M (A 83) i := fun i hi => hR.1.2.1 i hi
  refine z_iload_n (j := 1) o dX7_text_0 rfl ?_
  refine z_callSi (As := [.int u]) (n := 1) (st := []) o dX7_text_1 (c_X7_isUse hB M N u) zc_X7_168 (by decide) rfl rfl (Nat.le_of_ble_eq_true rfl) (fun r1 g2 p3 => ?_)
  obtain ⟨rfl, rfl⟩ := p3
  refine z_ifne (tgt := 13) o dX7_text_4 (by decide) (fun c4 => ?_) (fun c4 => ?_)
  · obtain ⟨ua, hua, eua⟩ := zin_lit (n := 1) rfl (by decide) c4
    subst eua
    refine z_aload_n (j := 0) o dX7_text_13 rfl ?_
    refine zo_get (i := 0) o hB dX7_text_14 zf_X7_25 rfl (by decide) (rfl) ?_
    refine z_aload_n (j := 0) o dX7_text_17 rfl ?_
    refine zo_get (i := 0) o hB dX7_text_18 zf_X7_10 rfl (by decide) (rfl) ?_
    refine zo_get (i := 1) o hB dX7_text_21 zf_X7_164 rfl (by decide) (rfl) ?_
    refine z_aload_n (j := 0) o dX7_text_24 rfl ?_
    refine zo_get (i := 0) o hB dX7_text_25 zf_X7_10 rfl (by decide) (rfl) ?_
    refine zo_get (i := 1) o hB dX7_text_28 zf_X7_161 rfl (by decide) (rfl) ?_
    refine zo_rw (y := nI (sp_nt (A 83))) (hR.1.1.2.2.2.2.1.trans hnt) ?_
    refine z_iload_n (j := 1) o dX7_text_31 rfl ?_
    refine z_callSr (As := [.int (nI ua)]) (n := 1) (st := [.int (nI (sp_nt (A 83))), zref B 5, zref B 67]) o dX7_text_32 (c_X2_namesOf hB M N ua (by omega)) zc_X7_171 (by decide) rfl rfl (Nat.le_of_ble_eq_true rfl) (fun r5 g6 p7 => ?_)
    obtain ⟨rfl, rfl⟩ := p7
    refine z_callVi (As := [zref B 5, .int (nI (sp_nt (A 83))), .ref (zsq B (ua + 1))]) (n := 3) (st := []) o dX7_text_35 (c_X5_faultOf hB M N ua (A 83) (by omega) hok.1 (fun j hj => hR.1.2.2.2.2.2.1 j hj)) zc_X7_177 (by decide) (i := 67) (by rw [hB]; exact zsh_lt rfl (by decide)) (zg_o rfl (by decide)) rfl rfl rfl (Nat.le_of_ble_eq_true rfl) (fun r8 g9 p10 => ?_)
    obtain ⟨M11, rfl, hX, ex, hgd⟩ := p10
    have hR1 : zRl M11 N A := hR.sc (hR.1.fr (fun j _ _ => hX j (by omega) (by omega)) (fun _ _ _ => rfl)) (fun j hj => hX j (by omega) (by omega)) (fun _ _ => rfl) (fun u hu => by rw [hX _ (by omega) (by omega)]; exact (hR.2.2.1 u hu).2)
    by_cases hg9 : ((sp_rd (A 83) ua).1 && decide (¬ (sp_rd (A 83) ua).2.1 < sp_nt (A 83))) = true
    · obtain ⟨e67, hl60, htok⟩ := hgd hg9
      refine zo_rw (y := -1) (by rw [ex, if_pos hg9]) ?_
      refine z_istore_n (i := 2) (lv2 := [(2, .int (-1)), (0, zref B 0), (1, .int (nI ua))]) o dX7_text_38 rfl (by decide) rfl ?_
      refine z_aload_n (j := 1) o dX7_text_39 rfl ?_
      refine zo_get (i := 0) o hB dX7_text_40 zf_X7_10 rfl (by decide) (rfl) ?_
      refine z_iconst (v := 0) o dX7_text_43 (by decide) ?_
      refine zo_put (i := 1) o hB dX7_text_44 zp_X7_161 rfl (by decide) (by decide) (Nat.le_of_ble_eq_true rfl) ?_
      refine z_iload_n (j := 0) o dX7_text_47 rfl ?_
      refine z_iflt (tgt := 56) o dX7_text_48 (by decide) (fun c12 => ?_) (fun c12 => ?_)
      · refine z_aload_n (j := 1) o dX7_text_56 rfl ?_
        refine zo_get (i := 0) o hB dX7_text_57 zf_X7_10 rfl (by decide) (rfl) ?_
        refine zo_get (i := 1) o hB dX7_text_60 zf_X7_181 rfl (by decide) (rfl) ?_
        refine z_iload_n (j := 2) o dX7_text_63 rfl ?_
        refine zo_aldL (i := 6) (j := ua) o hB dX7_text_64 rfl (show ua < 2 by omega) (by decide) ?_
        refine z_aload_n (j := 1) o dX7_text_65 rfl ?_
        refine zo_get (i := 0) o hB dX7_text_66 zf_X7_25 rfl (by decide) (rfl) ?_
        refine zo_get (i := 67) o hB dX7_text_69 zf_X7_185 rfl (by decide) (rfl) ?_
        refine z_aload_n (j := 1) o dX7_text_72 rfl ?_
        refine zo_get (i := 0) o hB dX7_text_73 zf_X7_25 rfl (by decide) (rfl) ?_
        refine zo_get (i := 67) o hB dX7_text_76 zf_X7_188 rfl (by decide) (rfl) ?_
        refine zo_rw (y := nI ((sp_rd (A 83) ua).2.2.length)) (by rw [zu_ne (by decide)]; exact e67) ?_
        refine z_callVv (As := [zref B 68, .int (nI ((sp_rd (A 83) ua).2.2.length))]) (n := 2) (st := []) o dX7_text_79 (c_X2_takeCode hB (zu M11 1 10 0) N (17 + 3 * ua) 68 (sp_rd (A 83) ua).2.2.length ((zh_R (r := 1) rfl).2.2.2.2.2.2.2.2.1 ua (by omega)) rfl rfl hl60 (by omega) (by omega)) zc_X7_191 (by decide) (i := 17 + 3 * ua) (by rw [hB]; exact zsh_lt ((zh_R (r := 1) rfl).2.2.2.2.2.2.2.2.1 ua (by omega)) (by decide)) (zg_o ((zh_R (r := 1) rfl).2.2.2.2.2.2.2.2.1 ua (by omega)) (by decide)) rfl rfl rfl (Nat.le_of_ble_eq_true rfl) (fun g14 p15 => ?_)
        cases p15
        have hl9 := lay_lw (M := zu M11 1 10 0) (w := 17 + 3 * ua) (u := ua) (ρ := upd (A 83) 4 0) (l := (sp_rd (A 83) ua).2.2) (by rw [zu_ne (by omega)]; exact (hR1.1.2.2.2.2.2.2.2 ua (by omega)).1) hl60 (fun k hk => by rw [zu_ne (by decide)]; exact htok k hk)
        refine z_iconst (v := 1) o dX7_text_82 (by decide) ?_
        have hS : sq_text A (nI ua) = (1, va_up A 83 (sp_lay (upd (A 83) 4 0) ua (sp_rd (A 83) ua).2.2)) := by
          unfold sq_text; (try rw [zn_nI (n := ua) (by omega)]); rw [if_neg c4, if_pos hg9] <;> (try rfl)
        exact kret _ _ _ _ dX7_text_83 ⟨tc_M (zu M11 1 10 0) (17 + 3 * ua) 68 (sp_rd (A 83) ua).2.2.length, N, rfl, by rw [hS], by rw [hS]; exact hR1.now ((hR1.1.fld (r := 1) (k := 10) (v := 4) (x := 0) (by decide)).law (r := 1) (fun u hu => by have := (zOkAll_u hok hu).2.1; unfold sp_len at this ⊢; rw [upd_ne (by omega)]; exact this) (u := ua) (by omega) (fun j a b => tc_ne a b) hl9 (lay_out hl60)) (fun j hj => (((zFr.rf (r := 1) (M := M11)).zu (i := 1) ⟨by omega, by omega⟩).tr (fun j hj => tc_ne (by omega) (by omega))) j (by omega)) (fun j hj => (fun j _ => rfl : zFrN 1 N N) j (by omega)), (show zHi M M11 from fun j hj => hX j (by omega) (by omega)).fr (((zFr.rf (r := 1) (M := M11)).zu (i := 1) ⟨by omega, by omega⟩).tr (fun j hj => tc_ne (by omega) (by omega))) (by decide)⟩
      · exact absurd c12 (by decide)
    · have hp60 : (sp_rd (A 83) ua).2.1 < 2 ^ 31 := rd_lt hok.1
      refine zo_rw (y := nI (sp_rd (A 83) ua).2.1) (by rw [ex, if_neg hg9]) ?_
      refine z_istore_n (i := 2) (lv2 := [(2, .int (nI ((sp_rd (A 83) ua).2.1))), (0, zref B 0), (1, .int (nI ua))]) o dX7_text_38 rfl (by decide) rfl ?_
      refine z_aload_n (j := 1) o dX7_text_39 rfl ?_
      refine zo_get (i := 0) o hB dX7_text_40 zf_X7_10 rfl (by decide) (rfl) ?_
      refine z_iconst (v := 0) o dX7_text_43 (by decide) ?_
      refine zo_put (i := 1) o hB dX7_text_44 zp_X7_161 rfl (by decide) (by decide) (Nat.le_of_ble_eq_true rfl) ?_
      refine z_iload_n (j := 0) o dX7_text_47 rfl ?_
      refine z_iflt (tgt := 56) o dX7_text_48 (by decide) (fun c16 => ?_) (fun c16 => ?_)
      · exact absurd c16 (nI_pos hp60)
      · refine z_bipush (v := (-10)) o dX7_text_51 (by decide) ?_
        refine z_iload_n (j := 0) o dX7_text_53 rfl ?_
        refine z_isub o dX7_text_54 ?_
        have hS : sq_text A (nI ua) = (((-10) - (nI ((sp_rd (A 83) ua).2.1))), va_up A 83 (upd (A 83) 4 0)) := by
          unfold sq_text; (try rw [zn_nI (n := ua) (by omega)]); rw [if_neg c4, if_neg hg9] <;> (try rfl)
        exact kret _ _ _ _ dX7_text_55 ⟨zu M11 1 10 0, N, rfl, by rw [hS], by rw [hS]; exact hR1.now (hR1.1.fld (r := 1) (k := 10) (v := 4) (x := 0) (by decide)) (fun j hj => ((zFr.rf (r := 1) (M := M11)).zu (i := 1) ⟨by omega, by omega⟩) j (by omega)) (fun j hj => (fun j _ => rfl : zFrN 1 N N) j (by omega)), (show zHi M M11 from fun j hj => hX j (by omega) (by omega)).fr ((zFr.rf (r := 1) (M := M11)).zu (i := 1) ⟨by omega, by omega⟩) (by decide)⟩
  · refine z_aload_n (j := 0) o dX7_text_7 rfl ?_
    refine z_iconst (v := 1) o dX7_text_8 (by decide) ?_
    refine z_callVi (As := [.int 1]) (n := 1) (st := []) o dX7_text_9 (c_X7_error hB M N 1 (by decide) (by decide)) zc_X7_54 (by decide) (i := 0) (by rw [hB]; exact zsh_lt rfl (by decide)) (zg_o rfl (by decide)) rfl rfl rfl (Nat.le_of_ble_eq_true rfl) (fun r17 g18 p19 => ?_)
    obtain ⟨rfl, rfl⟩ := p19
    have hS : sq_text A u = ((zE 1), zEr A 1) := by
      unfold sq_text;  rw [if_pos c4] <;> (try rfl)
    exact kret _ _ _ _ dX7_text_12 ⟨zu M 73 1 (M 73 1 + 1), N, rfl, by rw [hS], by rw [hS]; exact (hR).er (k := 1) (by decide), ((zHi.rf (M := M))).zu (by decide)⟩

set_option maxHeartbeats 4000000 in
set_option maxRecDepth 100000 in
theorem k_odds {B : zB} (hB : znn B = 95) (M : zM) (N : zN) (A : zM) (t : Int32) (hR : zRl M N A) (hok : zOkAll (A 83)) : zCi B (zg B M N) yX7_odds cX7_odds 5 (some .int) 5 [zref B 0, .int t] (fun r g' => ∃ (M1 : zM) (N1 : zN), g' = zg B M1 N1 ∧ r = (sq_odds A t).1 ∧ zRl M1 N1 (sq_odds A t).2 ∧ zHi M M1) := by
  refine zCi_of (by decide +kernel) (Nat.le_of_ble_eq_true rfl) .int rfl (fun _ _ _ => rfl) ?_
  intro X o kret
  show zW X B (zg B M N) 0 [(0, zref B 0), (1, .int t)] []
  obtain ⟨hnf, hnf4⟩ := ok_nf2 hok.1
  obtain ⟨hnc, hnc6⟩ := ok_nc2 hok.1
  obtain ⟨hnt, hnt60⟩ := ok_nt2 hok.1
  obtain ⟨hnw, hnw24⟩ := ok_nw2 hok.1
  have hF : ∀ i, i < 4 → zFn (9 + 2 * i) M (A 83) i := fun i hi => hR.1.2.1 i hi
  refine z_iload_n (j := 1) o dX7_odds_0 rfl ?_
  refine z_iflt (tgt := 9) o dX7_odds_1 (by decide) (fun c1 => ?_) (fun c1 => ?_)
  · refine z_aload_n (j := 0) o dX7_odds_9 rfl ?_
    refine z_iconst (v := 1) o dX7_odds_10 (by decide) ?_
    refine z_callVi (As := [.int 1]) (n := 1) (st := []) o dX7_odds_11 (c_X7_error hB M N 1 (by decide) (by decide)) zc_X7_54 (by decide) (i := 0) (by rw [hB]; exact zsh_lt rfl (by decide)) (zg_o rfl (by decide)) rfl rfl rfl (Nat.le_of_ble_eq_true rfl) (fun r2 g3 p4 => ?_)
    obtain ⟨rfl, rfl⟩ := p4
    have hS : sq_odds A t = ((zE 1), zEr A 1) := by
      unfold sq_odds;  rw [if_pos (zin_lo c1)] <;> (try rfl)
    exact kret _ _ _ _ dX7_odds_14 ⟨zu M 73 1 (M 73 1 + 1), N, rfl, by rw [hS], by rw [hS]; exact (hR).er (k := 1) (by decide), ((zHi.rf (M := M))).zu (by decide)⟩
  · refine z_iload_n (j := 1) o dX7_odds_4 rfl ?_
    refine z_iconst (v := 1) o dX7_odds_5 (by decide) ?_
    refine z_icmple (tgt := 15) o dX7_odds_6 (by decide) (fun c5 => ?_) (fun c5 => ?_)
    · refine z_aload_n (j := 0) o dX7_odds_15 rfl ?_
      refine zo_get (i := 0) o hB dX7_odds_16 zf_X7_10 rfl (by decide) (rfl) ?_
      refine z_callVv (As := []) (n := 0) (st := []) o dX7_odds_19 (c_X3_lookInside hB M N 1 (A 83) rfl hok.1 hR.1) zc_X7_155 (by decide) (i := 1) (by rw [hB]; exact zsh_lt rfl (by decide)) (zg_o rfl (by decide)) rfl rfl rfl (Nat.le_of_ble_eq_true rfl) (fun g7 p8 => ?_)
      obtain ⟨N9, rfl, fnN9, snN9⟩ := p8
      have hRN9 : zRl M N9 A := hR.sc (hR.1.sn (N1 := N9) (fnN9 1 (by decide))) (fun _ _ => rfl) (fun j hj => fnN9 j (by omega)) (fun u hu => (hR.2.2.1 u hu).2)
      refine z_aload_n (j := 0) o dX7_odds_22 rfl ?_
      refine zo_get (i := 0) o hB dX7_odds_23 zf_X7_10 rfl (by decide) (rfl) ?_
      refine z_callVl (As := []) (n := 0) (st := []) o dX7_odds_26 (c_X3_branded hB M N9 1 (A 83) rfl hok.1 hRN9.1 snN9) zc_X7_232 (by decide) (i := 1) (by rw [hB]; exact zsh_lt rfl (by decide)) (zg_o rfl (by decide)) rfl rfl rfl (Nat.le_of_ble_eq_true rfl) (fun r10 g11 p12 => ?_)
      obtain ⟨rfl, rfl⟩ := p12
      refine z_callSi (As := [.long (sp_allin (A 83) (sp_nf (A 83)))]) (n := 1) (st := []) o dX7_odds_29 (c_J13_bitCount hB M N9 (sp_allin (A 83) (sp_nf (A 83)))) zc_X7_102 (by decide) rfl rfl (Nat.le_of_ble_eq_true rfl) (fun r13 g14 p15 => ?_)
      obtain ⟨rfl, rfl⟩ := p15
      have hp64 := lpop_le (sp_allin (A 83) (sp_nf (A 83)))
      generalize har : lpop (sp_allin (A 83) (sp_nf (A 83))) = ar at hp64
      refine z_istore_n (i := 2) (lv2 := [(2, .int (nI ar)), (0, zref B 0), (1, .int t)]) o dX7_odds_32 rfl (by decide) rfl ?_
      refine z_bipush (v := 64) o dX7_odds_33 (by decide) ?_
      refine z_istore_n (i := 3) (lv2 := [(3, .int 64), (2, .int (nI ar)), (0, zref B 0), (1, .int t)]) o dX7_odds_35 rfl (by decide) rfl ?_
      refine z_iconst (v := 0) o dX7_odds_36 (by decide) ?_
      refine z_istore (i := 4) (lv2 := [(4, .int 0), (3, .int 64), (2, .int (nI ar)), (0, zref B 0), (1, .int t)]) o dX7_odds_37 (by decide) rfl ?_
      refine z_iload (j := 0) o dX7_odds_39 rfl ?_
      refine z_bipush (v := 64) o dX7_odds_41 (by decide) ?_
      refine z_icmpge (tgt := 72) o dX7_odds_43 (by decide) (fun c16 => ?_) (fun c16 => ?_)
      · exact absurd c16 (by decide)
      · refine z_iload_n (j := 2) o dX7_odds_46 rfl ?_
        refine z_iconst (v := 2) o dX7_odds_47 (by decide) ?_
        refine z_irem o dX7_odds_48 (by decide) ?_
        refine zo_rw (y := nI (ar % 2)) (zrem_nat (d := 2) rfl (by omega) (by decide) (by decide)) ?_
        refine z_ifne (tgt := 72) o dX7_odds_49 (by decide) (fun c17 => ?_) (fun c17 => ?_)
        · have hmc17 : ¬ ar % 2 = 0 := fun q => c17 (by rw [q]; rfl)
          have hod : sp_od 7 ar 64 = (ar, 64) := by rw [sp_od, if_neg (fun q => hmc17 q.1)]
          refine z_iload_n (j := 4) o dX7_odds_72 rfl ?_
          refine z_ifne (tgt := 80) o dX7_odds_73 (by decide) (fun c18 => ?_) (fun c18 => ?_)
          · have hbt : t = 1 := two_one (zin_in c1 c5) c18
            obtain rfl : t = 1 := hbt
            refine z_iload_n (j := 1) o dX7_odds_80 rfl ?_
            have hS : sq_odds A 1 = (64, A) := by
              unfold sq_odds;  rw [if_neg (zin_in c1 c5), har, hod, if_neg (show ¬ (1 : Int32) = 0 by decide)] <;> (try rfl)
            exact kret _ _ _ _ dX7_odds_81 ⟨M, N9, rfl, by rw [hS], by rw [hS]; exact hRN9, (zHi.rf (M := M))⟩
          · obtain rfl : t = 0 := c18
            refine z_iload_n (j := 2) o dX7_odds_76 rfl ?_
            refine z_goto (tgt := 81) o dX7_odds_77 (by decide) ?_
            have hS : sq_odds A 0 = ((nI ar), A) := by
              unfold sq_odds;  rw [if_neg (zin_in c1 c5), har, hod, if_pos rfl] <;> (try rfl)
            exact kret _ _ _ _ dX7_odds_81 ⟨M, N9, rfl, by rw [hS], by rw [hS]; exact hRN9, (zHi.rf (M := M))⟩
        · have hmc17 : ar % 2 = 0 := (nI_eq (b := 0) (by omega) (by decide)).mp c17
          refine z_iload_n (j := 1) o dX7_odds_52 rfl ?_
          refine z_iconst (v := 2) o dX7_odds_53 (by decide) ?_
          refine z_irem o dX7_odds_54 (by decide) ?_
          refine zo_rw (y := 0) (by decide) ?_
          refine z_ifne (tgt := 72) o dX7_odds_55 (by decide) (fun c19 => ?_) (fun c19 => ?_)
          · exact absurd c19 (by decide)
          · refine z_iload_n (j := 2) o dX7_odds_58 rfl ?_
            refine z_iconst (v := 2) o dX7_odds_59 (by decide) ?_
            refine z_idiv o dX7_odds_60 (by decide) ?_
            refine zo_rw (y := nI (ar / 2)) (pk_div (d := 2) (by omega) (by decide) (by decide)) ?_
            refine z_istore_n (i := 2) (lv2 := [(2, .int (nI (ar / 2))), (4, .int 0), (3, .int 64), (0, zref B 0), (1, .int t)]) o dX7_odds_61 rfl (by decide) rfl ?_
            refine z_iload_n (j := 2) o dX7_odds_62 rfl ?_
            refine z_iconst (v := 2) o dX7_odds_63 (by decide) ?_
            refine z_idiv o dX7_odds_64 (by decide) ?_
            refine zo_rw (y := 32) (by decide) ?_
            refine z_istore_n (i := 3) (lv2 := [(3, .int 32), (2, .int (nI (ar / 2))), (4, .int 0), (0, zref B 0), (1, .int t)]) o dX7_odds_65 rfl (by decide) rfl ?_
            refine z_iinc (j := 2) (v := 1) (lv2 := [(4, .int 1), (3, .int 32), (2, .int (nI (ar / 2))), (0, zref B 0), (1, .int t)]) o dX7_odds_66 rfl (by decide) (by decide) rfl ?_
            refine z_goto (tgt := 39) o dX7_odds_69 (by decide) ?_
            refine z_iload (j := 0) o dX7_odds_39 rfl ?_
            refine z_bipush (v := 64) o dX7_odds_41 (by decide) ?_
            refine z_icmpge (tgt := 72) o dX7_odds_43 (by decide) (fun c20 => ?_) (fun c20 => ?_)
            · exact absurd c20 (by decide)
            · refine z_iload_n (j := 2) o dX7_odds_46 rfl ?_
              refine z_iconst (v := 2) o dX7_odds_47 (by decide) ?_
              refine z_irem o dX7_odds_48 (by decide) ?_
              refine zo_rw (y := nI ((ar / 2) % 2)) (zrem_nat (d := 2) rfl (by omega) (by decide) (by decide)) ?_
              refine z_ifne (tgt := 72) o dX7_odds_49 (by decide) (fun c21 => ?_) (fun c21 => ?_)
              · have hmc21 : ¬ (ar / 2) % 2 = 0 := fun q => c21 (by rw [q]; rfl)
                have hod : sp_od 7 ar 64 = ((ar / 2), 32) := by rw [sp_od, if_pos ⟨hmc17, by decide⟩, sp_od, if_neg (fun q => hmc21 q.1)]
                refine z_iload_n (j := 4) o dX7_odds_72 rfl ?_
                refine z_ifne (tgt := 80) o dX7_odds_73 (by decide) (fun c22 => ?_) (fun c22 => ?_)
                · have hbt : t = 1 := two_one (zin_in c1 c5) c22
                  obtain rfl : t = 1 := hbt
                  refine z_iload_n (j := 1) o dX7_odds_80 rfl ?_
                  have hS : sq_odds A 1 = (32, A) := by
                    unfold sq_odds;  rw [if_neg (zin_in c1 c5), har, hod, if_neg (show ¬ (1 : Int32) = 0 by decide)] <;> (try rfl)
                  exact kret _ _ _ _ dX7_odds_81 ⟨M, N9, rfl, by rw [hS], by rw [hS]; exact hRN9, (zHi.rf (M := M))⟩
                · obtain rfl : t = 0 := c22
                  refine z_iload_n (j := 2) o dX7_odds_76 rfl ?_
                  refine z_goto (tgt := 81) o dX7_odds_77 (by decide) ?_
                  have hS : sq_odds A 0 = ((nI (ar / 2)), A) := by
                    unfold sq_odds;  rw [if_neg (zin_in c1 c5), har, hod, if_pos rfl] <;> (try rfl)
                  exact kret _ _ _ _ dX7_odds_81 ⟨M, N9, rfl, by rw [hS], by rw [hS]; exact hRN9, (zHi.rf (M := M))⟩
              · have hmc21 : (ar / 2) % 2 = 0 := (nI_eq (b := 0) (by omega) (by decide)).mp c21
                refine z_iload_n (j := 1) o dX7_odds_52 rfl ?_
                refine z_iconst (v := 2) o dX7_odds_53 (by decide) ?_
                refine z_irem o dX7_odds_54 (by decide) ?_
                refine zo_rw (y := 0) (by decide) ?_
                refine z_ifne (tgt := 72) o dX7_odds_55 (by decide) (fun c23 => ?_) (fun c23 => ?_)
                · exact absurd c23 (by decide)
                · refine z_iload_n (j := 2) o dX7_odds_58 rfl ?_
                  refine z_iconst (v := 2) o dX7_odds_59 (by decide) ?_
                  refine z_idiv o dX7_odds_60 (by decide) ?_
                  refine zo_rw (y := nI ((ar / 2) / 2)) (pk_div (d := 2) (by omega) (by decide) (by decide)) ?_
                  refine z_istore_n (i := 2) (lv2 := [(2, .int (nI ((ar / 2) / 2))), (4, .int 1), (3, .int 32), (0, zref B 0), (1, .int t)]) o dX7_odds_61 rfl (by decide) rfl ?_
                  refine z_iload_n (j := 2) o dX7_odds_62 rfl ?_
                  refine z_iconst (v := 2) o dX7_odds_63 (by decide) ?_
                  refine z_idiv o dX7_odds_64 (by decide) ?_
                  refine zo_rw (y := 16) (by decide) ?_
                  refine z_istore_n (i := 3) (lv2 := [(3, .int 16), (2, .int (nI ((ar / 2) / 2))), (4, .int 1), (0, zref B 0), (1, .int t)]) o dX7_odds_65 rfl (by decide) rfl ?_
                  refine z_iinc (j := 2) (v := 2) (lv2 := [(4, .int 2), (3, .int 16), (2, .int (nI ((ar / 2) / 2))), (0, zref B 0), (1, .int t)]) o dX7_odds_66 rfl (by decide) (by decide) rfl ?_
                  refine z_goto (tgt := 39) o dX7_odds_69 (by decide) ?_
                  refine z_iload (j := 0) o dX7_odds_39 rfl ?_
                  refine z_bipush (v := 64) o dX7_odds_41 (by decide) ?_
                  refine z_icmpge (tgt := 72) o dX7_odds_43 (by decide) (fun c24 => ?_) (fun c24 => ?_)
                  · exact absurd c24 (by decide)
                  · refine z_iload_n (j := 2) o dX7_odds_46 rfl ?_
                    refine z_iconst (v := 2) o dX7_odds_47 (by decide) ?_
                    refine z_irem o dX7_odds_48 (by decide) ?_
                    refine zo_rw (y := nI (((ar / 2) / 2) % 2)) (zrem_nat (d := 2) rfl (by omega) (by decide) (by decide)) ?_
                    refine z_ifne (tgt := 72) o dX7_odds_49 (by decide) (fun c25 => ?_) (fun c25 => ?_)
                    · have hmc25 : ¬ ((ar / 2) / 2) % 2 = 0 := fun q => c25 (by rw [q]; rfl)
                      have hod : sp_od 7 ar 64 = (((ar / 2) / 2), 16) := by rw [sp_od, if_pos ⟨hmc17, by decide⟩, sp_od, if_pos ⟨hmc21, by decide⟩, sp_od, if_neg (fun q => hmc25 q.1)]
                      refine z_iload_n (j := 4) o dX7_odds_72 rfl ?_
                      refine z_ifne (tgt := 80) o dX7_odds_73 (by decide) (fun c26 => ?_) (fun c26 => ?_)
                      · have hbt : t = 1 := two_one (zin_in c1 c5) c26
                        obtain rfl : t = 1 := hbt
                        refine z_iload_n (j := 1) o dX7_odds_80 rfl ?_
                        have hS : sq_odds A 1 = (16, A) := by
                          unfold sq_odds;  rw [if_neg (zin_in c1 c5), har, hod, if_neg (show ¬ (1 : Int32) = 0 by decide)] <;> (try rfl)
                        exact kret _ _ _ _ dX7_odds_81 ⟨M, N9, rfl, by rw [hS], by rw [hS]; exact hRN9, (zHi.rf (M := M))⟩
                      · obtain rfl : t = 0 := c26
                        refine z_iload_n (j := 2) o dX7_odds_76 rfl ?_
                        refine z_goto (tgt := 81) o dX7_odds_77 (by decide) ?_
                        have hS : sq_odds A 0 = ((nI ((ar / 2) / 2)), A) := by
                          unfold sq_odds;  rw [if_neg (zin_in c1 c5), har, hod, if_pos rfl] <;> (try rfl)
                        exact kret _ _ _ _ dX7_odds_81 ⟨M, N9, rfl, by rw [hS], by rw [hS]; exact hRN9, (zHi.rf (M := M))⟩
                    · have hmc25 : ((ar / 2) / 2) % 2 = 0 := (nI_eq (b := 0) (by omega) (by decide)).mp c25
                      refine z_iload_n (j := 1) o dX7_odds_52 rfl ?_
                      refine z_iconst (v := 2) o dX7_odds_53 (by decide) ?_
                      refine z_irem o dX7_odds_54 (by decide) ?_
                      refine zo_rw (y := 0) (by decide) ?_
                      refine z_ifne (tgt := 72) o dX7_odds_55 (by decide) (fun c27 => ?_) (fun c27 => ?_)
                      · exact absurd c27 (by decide)
                      · refine z_iload_n (j := 2) o dX7_odds_58 rfl ?_
                        refine z_iconst (v := 2) o dX7_odds_59 (by decide) ?_
                        refine z_idiv o dX7_odds_60 (by decide) ?_
                        refine zo_rw (y := nI (((ar / 2) / 2) / 2)) (pk_div (d := 2) (by omega) (by decide) (by decide)) ?_
                        refine z_istore_n (i := 2) (lv2 := [(2, .int (nI (((ar / 2) / 2) / 2))), (4, .int 2), (3, .int 16), (0, zref B 0), (1, .int t)]) o dX7_odds_61 rfl (by decide) rfl ?_
                        refine z_iload_n (j := 2) o dX7_odds_62 rfl ?_
                        refine z_iconst (v := 2) o dX7_odds_63 (by decide) ?_
                        refine z_idiv o dX7_odds_64 (by decide) ?_
                        refine zo_rw (y := 8) (by decide) ?_
                        refine z_istore_n (i := 3) (lv2 := [(3, .int 8), (2, .int (nI (((ar / 2) / 2) / 2))), (4, .int 2), (0, zref B 0), (1, .int t)]) o dX7_odds_65 rfl (by decide) rfl ?_
                        refine z_iinc (j := 2) (v := 3) (lv2 := [(4, .int 3), (3, .int 8), (2, .int (nI (((ar / 2) / 2) / 2))), (0, zref B 0), (1, .int t)]) o dX7_odds_66 rfl (by decide) (by decide) rfl ?_
                        refine z_goto (tgt := 39) o dX7_odds_69 (by decide) ?_
                        refine z_iload (j := 0) o dX7_odds_39 rfl ?_
                        refine z_bipush (v := 64) o dX7_odds_41 (by decide) ?_
                        refine z_icmpge (tgt := 72) o dX7_odds_43 (by decide) (fun c28 => ?_) (fun c28 => ?_)
                        · exact absurd c28 (by decide)
                        · refine z_iload_n (j := 2) o dX7_odds_46 rfl ?_
                          refine z_iconst (v := 2) o dX7_odds_47 (by decide) ?_
                          refine z_irem o dX7_odds_48 (by decide) ?_
                          refine zo_rw (y := nI ((((ar / 2) / 2) / 2) % 2)) (zrem_nat (d := 2) rfl (by omega) (by decide) (by decide)) ?_
                          refine z_ifne (tgt := 72) o dX7_odds_49 (by decide) (fun c29 => ?_) (fun c29 => ?_)
                          · have hmc29 : ¬ (((ar / 2) / 2) / 2) % 2 = 0 := fun q => c29 (by rw [q]; rfl)
                            have hod : sp_od 7 ar 64 = ((((ar / 2) / 2) / 2), 8) := by rw [sp_od, if_pos ⟨hmc17, by decide⟩, sp_od, if_pos ⟨hmc21, by decide⟩, sp_od, if_pos ⟨hmc25, by decide⟩, sp_od, if_neg (fun q => hmc29 q.1)]
                            refine z_iload_n (j := 4) o dX7_odds_72 rfl ?_
                            refine z_ifne (tgt := 80) o dX7_odds_73 (by decide) (fun c30 => ?_) (fun c30 => ?_)
                            · have hbt : t = 1 := two_one (zin_in c1 c5) c30
                              obtain rfl : t = 1 := hbt
                              refine z_iload_n (j := 1) o dX7_odds_80 rfl ?_
                              have hS : sq_odds A 1 = (8, A) := by
                                unfold sq_odds;  rw [if_neg (zin_in c1 c5), har, hod, if_neg (show ¬ (1 : Int32) = 0 by decide)] <;> (try rfl)
                              exact kret _ _ _ _ dX7_odds_81 ⟨M, N9, rfl, by rw [hS], by rw [hS]; exact hRN9, (zHi.rf (M := M))⟩
                            · obtain rfl : t = 0 := c30
                              refine z_iload_n (j := 2) o dX7_odds_76 rfl ?_
                              refine z_goto (tgt := 81) o dX7_odds_77 (by decide) ?_
                              have hS : sq_odds A 0 = ((nI (((ar / 2) / 2) / 2)), A) := by
                                unfold sq_odds;  rw [if_neg (zin_in c1 c5), har, hod, if_pos rfl] <;> (try rfl)
                              exact kret _ _ _ _ dX7_odds_81 ⟨M, N9, rfl, by rw [hS], by rw [hS]; exact hRN9, (zHi.rf (M := M))⟩
                          · have hmc29 : (((ar / 2) / 2) / 2) % 2 = 0 := (nI_eq (b := 0) (by omega) (by decide)).mp c29
                            refine z_iload_n (j := 1) o dX7_odds_52 rfl ?_
                            refine z_iconst (v := 2) o dX7_odds_53 (by decide) ?_
                            refine z_irem o dX7_odds_54 (by decide) ?_
                            refine zo_rw (y := 0) (by decide) ?_
                            refine z_ifne (tgt := 72) o dX7_odds_55 (by decide) (fun c31 => ?_) (fun c31 => ?_)
                            · exact absurd c31 (by decide)
                            · refine z_iload_n (j := 2) o dX7_odds_58 rfl ?_
                              refine z_iconst (v := 2) o dX7_odds_59 (by decide) ?_
                              refine z_idiv o dX7_odds_60 (by decide) ?_
                              refine zo_rw (y := nI ((((ar / 2) / 2) / 2) / 2)) (pk_div (d := 2) (by omega) (by decide) (by decide)) ?_
                              refine z_istore_n (i := 2) (lv2 := [(2, .int (nI ((((ar / 2) / 2) / 2) / 2))), (4, .int 3), (3, .int 8), (0, zref B 0), (1, .int t)]) o dX7_odds_61 rfl (by decide) rfl ?_
                              refine z_iload_n (j := 2) o dX7_odds_62 rfl ?_
                              refine z_iconst (v := 2) o dX7_odds_63 (by decide) ?_
                              refine z_idiv o dX7_odds_64 (by decide) ?_
                              refine zo_rw (y := 4) (by decide) ?_
                              refine z_istore_n (i := 3) (lv2 := [(3, .int 4), (2, .int (nI ((((ar / 2) / 2) / 2) / 2))), (4, .int 3), (0, zref B 0), (1, .int t)]) o dX7_odds_65 rfl (by decide) rfl ?_
                              refine z_iinc (j := 2) (v := 4) (lv2 := [(4, .int 4), (3, .int 4), (2, .int (nI ((((ar / 2) / 2) / 2) / 2))), (0, zref B 0), (1, .int t)]) o dX7_odds_66 rfl (by decide) (by decide) rfl ?_
                              refine z_goto (tgt := 39) o dX7_odds_69 (by decide) ?_
                              refine z_iload (j := 0) o dX7_odds_39 rfl ?_
                              refine z_bipush (v := 64) o dX7_odds_41 (by decide) ?_
                              refine z_icmpge (tgt := 72) o dX7_odds_43 (by decide) (fun c32 => ?_) (fun c32 => ?_)
                              · exact absurd c32 (by decide)
                              · refine z_iload_n (j := 2) o dX7_odds_46 rfl ?_
                                refine z_iconst (v := 2) o dX7_odds_47 (by decide) ?_
                                refine z_irem o dX7_odds_48 (by decide) ?_
                                refine zo_rw (y := nI (((((ar / 2) / 2) / 2) / 2) % 2)) (zrem_nat (d := 2) rfl (by omega) (by decide) (by decide)) ?_
                                refine z_ifne (tgt := 72) o dX7_odds_49 (by decide) (fun c33 => ?_) (fun c33 => ?_)
                                · have hmc33 : ¬ ((((ar / 2) / 2) / 2) / 2) % 2 = 0 := fun q => c33 (by rw [q]; rfl)
                                  have hod : sp_od 7 ar 64 = (((((ar / 2) / 2) / 2) / 2), 4) := by rw [sp_od, if_pos ⟨hmc17, by decide⟩, sp_od, if_pos ⟨hmc21, by decide⟩, sp_od, if_pos ⟨hmc25, by decide⟩, sp_od, if_pos ⟨hmc29, by decide⟩, sp_od, if_neg (fun q => hmc33 q.1)]
                                  refine z_iload_n (j := 4) o dX7_odds_72 rfl ?_
                                  refine z_ifne (tgt := 80) o dX7_odds_73 (by decide) (fun c34 => ?_) (fun c34 => ?_)
                                  · have hbt : t = 1 := two_one (zin_in c1 c5) c34
                                    obtain rfl : t = 1 := hbt
                                    refine z_iload_n (j := 1) o dX7_odds_80 rfl ?_
                                    have hS : sq_odds A 1 = (4, A) := by
                                      unfold sq_odds;  rw [if_neg (zin_in c1 c5), har, hod, if_neg (show ¬ (1 : Int32) = 0 by decide)] <;> (try rfl)
                                    exact kret _ _ _ _ dX7_odds_81 ⟨M, N9, rfl, by rw [hS], by rw [hS]; exact hRN9, (zHi.rf (M := M))⟩
                                  · obtain rfl : t = 0 := c34
                                    refine z_iload_n (j := 2) o dX7_odds_76 rfl ?_
                                    refine z_goto (tgt := 81) o dX7_odds_77 (by decide) ?_
                                    have hS : sq_odds A 0 = ((nI ((((ar / 2) / 2) / 2) / 2)), A) := by
                                      unfold sq_odds;  rw [if_neg (zin_in c1 c5), har, hod, if_pos rfl] <;> (try rfl)
                                    exact kret _ _ _ _ dX7_odds_81 ⟨M, N9, rfl, by rw [hS], by rw [hS]; exact hRN9, (zHi.rf (M := M))⟩
                                · have hmc33 : ((((ar / 2) / 2) / 2) / 2) % 2 = 0 := (nI_eq (b := 0) (by omega) (by decide)).mp c33
                                  refine z_iload_n (j := 1) o dX7_odds_52 rfl ?_
                                  refine z_iconst (v := 2) o dX7_odds_53 (by decide) ?_
                                  refine z_irem o dX7_odds_54 (by decide) ?_
                                  refine zo_rw (y := 0) (by decide) ?_
                                  refine z_ifne (tgt := 72) o dX7_odds_55 (by decide) (fun c35 => ?_) (fun c35 => ?_)
                                  · exact absurd c35 (by decide)
                                  · refine z_iload_n (j := 2) o dX7_odds_58 rfl ?_
                                    refine z_iconst (v := 2) o dX7_odds_59 (by decide) ?_
                                    refine z_idiv o dX7_odds_60 (by decide) ?_
                                    refine zo_rw (y := nI (((((ar / 2) / 2) / 2) / 2) / 2)) (pk_div (d := 2) (by omega) (by decide) (by decide)) ?_
                                    refine z_istore_n (i := 2) (lv2 := [(2, .int (nI (((((ar / 2) / 2) / 2) / 2) / 2))), (4, .int 4), (3, .int 4), (0, zref B 0), (1, .int t)]) o dX7_odds_61 rfl (by decide) rfl ?_
                                    refine z_iload_n (j := 2) o dX7_odds_62 rfl ?_
                                    refine z_iconst (v := 2) o dX7_odds_63 (by decide) ?_
                                    refine z_idiv o dX7_odds_64 (by decide) ?_
                                    refine zo_rw (y := 2) (by decide) ?_
                                    refine z_istore_n (i := 3) (lv2 := [(3, .int 2), (2, .int (nI (((((ar / 2) / 2) / 2) / 2) / 2))), (4, .int 4), (0, zref B 0), (1, .int t)]) o dX7_odds_65 rfl (by decide) rfl ?_
                                    refine z_iinc (j := 2) (v := 5) (lv2 := [(4, .int 5), (3, .int 2), (2, .int (nI (((((ar / 2) / 2) / 2) / 2) / 2))), (0, zref B 0), (1, .int t)]) o dX7_odds_66 rfl (by decide) (by decide) rfl ?_
                                    refine z_goto (tgt := 39) o dX7_odds_69 (by decide) ?_
                                    refine z_iload (j := 0) o dX7_odds_39 rfl ?_
                                    refine z_bipush (v := 64) o dX7_odds_41 (by decide) ?_
                                    refine z_icmpge (tgt := 72) o dX7_odds_43 (by decide) (fun c36 => ?_) (fun c36 => ?_)
                                    · exact absurd c36 (by decide)
                                    · refine z_iload_n (j := 2) o dX7_odds_46 rfl ?_
                                      refine z_iconst (v := 2) o dX7_odds_47 (by decide) ?_
                                      refine z_irem o dX7_odds_48 (by decide) ?_
                                      refine zo_rw (y := nI ((((((ar / 2) / 2) / 2) / 2) / 2) % 2)) (zrem_nat (d := 2) rfl (by omega) (by decide) (by decide)) ?_
                                      refine z_ifne (tgt := 72) o dX7_odds_49 (by decide) (fun c37 => ?_) (fun c37 => ?_)
                                      · have hmc37 : ¬ (((((ar / 2) / 2) / 2) / 2) / 2) % 2 = 0 := fun q => c37 (by rw [q]; rfl)
                                        have hod : sp_od 7 ar 64 = ((((((ar / 2) / 2) / 2) / 2) / 2), 2) := by rw [sp_od, if_pos ⟨hmc17, by decide⟩, sp_od, if_pos ⟨hmc21, by decide⟩, sp_od, if_pos ⟨hmc25, by decide⟩, sp_od, if_pos ⟨hmc29, by decide⟩, sp_od, if_pos ⟨hmc33, by decide⟩, sp_od, if_neg (fun q => hmc37 q.1)]
                                        refine z_iload_n (j := 4) o dX7_odds_72 rfl ?_
                                        refine z_ifne (tgt := 80) o dX7_odds_73 (by decide) (fun c38 => ?_) (fun c38 => ?_)
                                        · have hbt : t = 1 := two_one (zin_in c1 c5) c38
                                          obtain rfl : t = 1 := hbt
                                          refine z_iload_n (j := 1) o dX7_odds_80 rfl ?_
                                          have hS : sq_odds A 1 = (2, A) := by
                                            unfold sq_odds;  rw [if_neg (zin_in c1 c5), har, hod, if_neg (show ¬ (1 : Int32) = 0 by decide)] <;> (try rfl)
                                          exact kret _ _ _ _ dX7_odds_81 ⟨M, N9, rfl, by rw [hS], by rw [hS]; exact hRN9, (zHi.rf (M := M))⟩
                                        · obtain rfl : t = 0 := c38
                                          refine z_iload_n (j := 2) o dX7_odds_76 rfl ?_
                                          refine z_goto (tgt := 81) o dX7_odds_77 (by decide) ?_
                                          have hS : sq_odds A 0 = ((nI (((((ar / 2) / 2) / 2) / 2) / 2)), A) := by
                                            unfold sq_odds;  rw [if_neg (zin_in c1 c5), har, hod, if_pos rfl] <;> (try rfl)
                                          exact kret _ _ _ _ dX7_odds_81 ⟨M, N9, rfl, by rw [hS], by rw [hS]; exact hRN9, (zHi.rf (M := M))⟩
                                      · have hmc37 : (((((ar / 2) / 2) / 2) / 2) / 2) % 2 = 0 := (nI_eq (b := 0) (by omega) (by decide)).mp c37
                                        refine z_iload_n (j := 1) o dX7_odds_52 rfl ?_
                                        refine z_iconst (v := 2) o dX7_odds_53 (by decide) ?_
                                        refine z_irem o dX7_odds_54 (by decide) ?_
                                        refine zo_rw (y := 0) (by decide) ?_
                                        refine z_ifne (tgt := 72) o dX7_odds_55 (by decide) (fun c39 => ?_) (fun c39 => ?_)
                                        · exact absurd c39 (by decide)
                                        · refine z_iload_n (j := 2) o dX7_odds_58 rfl ?_
                                          refine z_iconst (v := 2) o dX7_odds_59 (by decide) ?_
                                          refine z_idiv o dX7_odds_60 (by decide) ?_
                                          refine zo_rw (y := nI ((((((ar / 2) / 2) / 2) / 2) / 2) / 2)) (pk_div (d := 2) (by omega) (by decide) (by decide)) ?_
                                          refine z_istore_n (i := 2) (lv2 := [(2, .int (nI ((((((ar / 2) / 2) / 2) / 2) / 2) / 2))), (4, .int 5), (3, .int 2), (0, zref B 0), (1, .int t)]) o dX7_odds_61 rfl (by decide) rfl ?_
                                          refine z_iload_n (j := 2) o dX7_odds_62 rfl ?_
                                          refine z_iconst (v := 2) o dX7_odds_63 (by decide) ?_
                                          refine z_idiv o dX7_odds_64 (by decide) ?_
                                          refine zo_rw (y := 1) (by decide) ?_
                                          refine z_istore_n (i := 3) (lv2 := [(3, .int 1), (2, .int (nI ((((((ar / 2) / 2) / 2) / 2) / 2) / 2))), (4, .int 5), (0, zref B 0), (1, .int t)]) o dX7_odds_65 rfl (by decide) rfl ?_
                                          refine z_iinc (j := 2) (v := 6) (lv2 := [(4, .int 6), (3, .int 1), (2, .int (nI ((((((ar / 2) / 2) / 2) / 2) / 2) / 2))), (0, zref B 0), (1, .int t)]) o dX7_odds_66 rfl (by decide) (by decide) rfl ?_
                                          refine z_goto (tgt := 39) o dX7_odds_69 (by decide) ?_
                                          refine z_iload (j := 0) o dX7_odds_39 rfl ?_
                                          refine z_bipush (v := 64) o dX7_odds_41 (by decide) ?_
                                          refine z_icmpge (tgt := 72) o dX7_odds_43 (by decide) (fun c40 => ?_) (fun c40 => ?_)
                                          · exact absurd c40 (by decide)
                                          · refine z_iload_n (j := 2) o dX7_odds_46 rfl ?_
                                            refine z_iconst (v := 2) o dX7_odds_47 (by decide) ?_
                                            refine z_irem o dX7_odds_48 (by decide) ?_
                                            refine zo_rw (y := nI (((((((ar / 2) / 2) / 2) / 2) / 2) / 2) % 2)) (zrem_nat (d := 2) rfl (by omega) (by decide) (by decide)) ?_
                                            refine z_ifne (tgt := 72) o dX7_odds_49 (by decide) (fun c41 => ?_) (fun c41 => ?_)
                                            · have hmc41 : ¬ ((((((ar / 2) / 2) / 2) / 2) / 2) / 2) % 2 = 0 := fun q => c41 (by rw [q]; rfl)
                                              have hod : sp_od 7 ar 64 = (((((((ar / 2) / 2) / 2) / 2) / 2) / 2), 1) := by rw [sp_od, if_pos ⟨hmc17, by decide⟩, sp_od, if_pos ⟨hmc21, by decide⟩, sp_od, if_pos ⟨hmc25, by decide⟩, sp_od, if_pos ⟨hmc29, by decide⟩, sp_od, if_pos ⟨hmc33, by decide⟩, sp_od, if_pos ⟨hmc37, by decide⟩, sp_od, if_neg (fun q => hmc41 q.1)]
                                              refine z_iload_n (j := 4) o dX7_odds_72 rfl ?_
                                              refine z_ifne (tgt := 80) o dX7_odds_73 (by decide) (fun c42 => ?_) (fun c42 => ?_)
                                              · have hbt : t = 1 := two_one (zin_in c1 c5) c42
                                                obtain rfl : t = 1 := hbt
                                                refine z_iload_n (j := 1) o dX7_odds_80 rfl ?_
                                                have hS : sq_odds A 1 = (1, A) := by
                                                  unfold sq_odds;  rw [if_neg (zin_in c1 c5), har, hod, if_neg (show ¬ (1 : Int32) = 0 by decide)] <;> (try rfl)
                                                exact kret _ _ _ _ dX7_odds_81 ⟨M, N9, rfl, by rw [hS], by rw [hS]; exact hRN9, (zHi.rf (M := M))⟩
                                              · obtain rfl : t = 0 := c42
                                                refine z_iload_n (j := 2) o dX7_odds_76 rfl ?_
                                                refine z_goto (tgt := 81) o dX7_odds_77 (by decide) ?_
                                                have hS : sq_odds A 0 = ((nI ((((((ar / 2) / 2) / 2) / 2) / 2) / 2)), A) := by
                                                  unfold sq_odds;  rw [if_neg (zin_in c1 c5), har, hod, if_pos rfl] <;> (try rfl)
                                                exact kret _ _ _ _ dX7_odds_81 ⟨M, N9, rfl, by rw [hS], by rw [hS]; exact hRN9, (zHi.rf (M := M))⟩
                                            · have hmc41 : ((((((ar / 2) / 2) / 2) / 2) / 2) / 2) % 2 = 0 := (nI_eq (b := 0) (by omega) (by decide)).mp c41
                                              refine z_iload_n (j := 1) o dX7_odds_52 rfl ?_
                                              refine z_iconst (v := 2) o dX7_odds_53 (by decide) ?_
                                              refine z_irem o dX7_odds_54 (by decide) ?_
                                              refine zo_rw (y := 1) (by decide) ?_
                                              refine z_ifne (tgt := 72) o dX7_odds_55 (by decide) (fun c43 => ?_) (fun c43 => ?_)
                                              · have hod : sp_od 7 ar 64 = (((((((ar / 2) / 2) / 2) / 2) / 2) / 2), 1) := by rw [sp_od, if_pos ⟨hmc17, by decide⟩, sp_od, if_pos ⟨hmc21, by decide⟩, sp_od, if_pos ⟨hmc25, by decide⟩, sp_od, if_pos ⟨hmc29, by decide⟩, sp_od, if_pos ⟨hmc33, by decide⟩, sp_od, if_pos ⟨hmc37, by decide⟩, sp_od, if_neg (fun q => absurd q.2 (by decide))]
                                                refine z_iload_n (j := 4) o dX7_odds_72 rfl ?_
                                                refine z_ifne (tgt := 80) o dX7_odds_73 (by decide) (fun c44 => ?_) (fun c44 => ?_)
                                                · have hbt : t = 1 := two_one (zin_in c1 c5) c44
                                                  obtain rfl : t = 1 := hbt
                                                  refine z_iload_n (j := 1) o dX7_odds_80 rfl ?_
                                                  have hS : sq_odds A 1 = (1, A) := by
                                                    unfold sq_odds;  rw [if_neg (zin_in c1 c5), har, hod, if_neg (show ¬ (1 : Int32) = 0 by decide)] <;> (try rfl)
                                                  exact kret _ _ _ _ dX7_odds_81 ⟨M, N9, rfl, by rw [hS], by rw [hS]; exact hRN9, (zHi.rf (M := M))⟩
                                                · obtain rfl : t = 0 := c44
                                                  refine z_iload_n (j := 2) o dX7_odds_76 rfl ?_
                                                  refine z_goto (tgt := 81) o dX7_odds_77 (by decide) ?_
                                                  have hS : sq_odds A 0 = ((nI ((((((ar / 2) / 2) / 2) / 2) / 2) / 2)), A) := by
                                                    unfold sq_odds;  rw [if_neg (zin_in c1 c5), har, hod, if_pos rfl] <;> (try rfl)
                                                  exact kret _ _ _ _ dX7_odds_81 ⟨M, N9, rfl, by rw [hS], by rw [hS]; exact hRN9, (zHi.rf (M := M))⟩
                                              · exact absurd c43 (by decide)
    · refine z_aload_n (j := 0) o dX7_odds_9 rfl ?_
      refine z_iconst (v := 1) o dX7_odds_10 (by decide) ?_
      refine z_callVi (As := [.int 1]) (n := 1) (st := []) o dX7_odds_11 (c_X7_error hB M N 1 (by decide) (by decide)) zc_X7_54 (by decide) (i := 0) (by rw [hB]; exact zsh_lt rfl (by decide)) (zg_o rfl (by decide)) rfl rfl rfl (Nat.le_of_ble_eq_true rfl) (fun r45 g46 p47 => ?_)
      obtain ⟨rfl, rfl⟩ := p47
      have hS : sq_odds A t = ((zE 1), zEr A 1) := by
        unfold sq_odds;  rw [if_pos (zin_hi c5)] <;> (try rfl)
      exact kret _ _ _ _ dX7_odds_14 ⟨zu M 73 1 (M 73 1 + 1), N, rfl, by rw [hS], by rw [hS]; exact (hR).er (k := 1) (by decide), ((zHi.rf (M := M))).zu (by decide)⟩

set_option maxHeartbeats 4000000 in
set_option maxRecDepth 100000 in
theorem k_voice {B : zB} (hB : znn B = 95) (M : zM) (N : zN) (A : zM) (f : Int32) (v : Int32) (x : Int32) (hR : zRl M N A) (hok : zOkAll (A 83)) : zCi B (zg B M N) yX7_voice cX7_voice 6 (some .int) 10 [zref B 0, .int f, .int v, .int x] (fun r g' => ∃ (M1 : zM) (N1 : zN), g' = zg B M1 N1 ∧ r = (sq_voice A f v x).1 ∧ zRl M1 N1 (sq_voice A f v x).2 ∧ zHi M M1) := by
  refine zCi_of (by decide +kernel) (Nat.le_of_ble_eq_true rfl) .int rfl (fun _ _ _ => rfl) ?_
  intro X o kret
  show zW X B (zg B M N) 0 [(0, zref B 0), (1, .int f), (2, .int v), (3, .int x)] []
  obtain ⟨hnf, hnf4⟩ := ok_nf2 hok.1
  obtain ⟨hnc, hnc6⟩ := ok_nc2 hok.1
  obtain ⟨hnt, hnt60⟩ := ok_nt2 hok.1
  obtain ⟨hnw, hnw24⟩ := ok_nw2 hok.1
  have hF : ∀ i, i < 4 → zFn (9 + 2 * i) M (A 83) i := fun i hi => hR.1.2.1 i hi
  refine z_aload_n (j := 0) o dX7_voice_0 rfl ?_
  refine z_iload_n (j := 1) o dX7_voice_1 rfl ?_
  refine z_callVi (As := [.int f]) (n := 1) (st := []) o dX7_voice_2 (c_X7_isFence hB M N A f hR hok.1) zc_X7_72 (by decide) (i := 0) (by rw [hB]; exact zsh_lt rfl (by decide)) (zg_o rfl (by decide)) rfl rfl rfl (Nat.le_of_ble_eq_true rfl) (fun r1 g2 p3 => ?_)
  obtain ⟨rfl, rfl⟩ := p3
  refine z_ifeq (tgt := 17) o dX7_voice_5 (by decide) (fun c4 => ?_) (fun c4 => ?_)
  · refine z_aload_n (j := 0) o dX7_voice_17 rfl ?_
    refine z_iconst (v := 1) o dX7_voice_18 (by decide) ?_
    refine z_callVi (As := [.int 1]) (n := 1) (st := []) o dX7_voice_19 (c_X7_error hB M N 1 (by decide) (by decide)) zc_X7_54 (by decide) (i := 0) (by rw [hB]; exact zsh_lt rfl (by decide)) (zg_o rfl (by decide)) rfl rfl rfl (Nat.le_of_ble_eq_true rfl) (fun r5 g6 p7 => ?_)
    obtain ⟨rfl, rfl⟩ := p7
    have hS : sq_voice A f v x = ((zE 1), zEr A 1) := by
      unfold sq_voice;  rw [if_pos c4] <;> (try rfl)
    exact kret _ _ _ _ dX7_voice_22 ⟨zu M 73 1 (M 73 1 + 1), N, rfl, by rw [hS], by rw [hS]; exact (hR).er (k := 1) (by decide), ((zHi.rf (M := M))).zu (by decide)⟩
  · have hzf := c4
    rw [hnf] at hzf
    obtain ⟨fa, hfa, efa⟩ := zin_nat (by omega) hzf
    subst efa
    obtain ⟨hnpfa, hnp8⟩ := ok_np2 hok.1 (i := fa) (by omega)
    refine z_iload_n (j := 2) o dX7_voice_8 rfl ?_
    refine z_iflt (tgt := 17) o dX7_voice_9 (by decide) (fun c8 => ?_) (fun c8 => ?_)
    · refine z_aload_n (j := 0) o dX7_voice_17 rfl ?_
      refine z_iconst (v := 1) o dX7_voice_18 (by decide) ?_
      refine z_callVi (As := [.int 1]) (n := 1) (st := []) o dX7_voice_19 (c_X7_error hB M N 1 (by decide) (by decide)) zc_X7_54 (by decide) (i := 0) (by rw [hB]; exact zsh_lt rfl (by decide)) (zg_o rfl (by decide)) rfl rfl rfl (Nat.le_of_ble_eq_true rfl) (fun r9 g10 p11 => ?_)
      obtain ⟨rfl, rfl⟩ := p11
      have hS : sq_voice A (nI fa) v x = ((zE 1), zEr A 1) := by
        unfold sq_voice; (try rw [zn_nI (n := fa) (by omega)]); rw [if_neg c4, if_pos (zin_lo c8)] <;> (try rfl)
      exact kret _ _ _ _ dX7_voice_22 ⟨zu M 73 1 (M 73 1 + 1), N, rfl, by rw [hS], by rw [hS]; exact (hR).er (k := 1) (by decide), ((zHi.rf (M := M))).zu (by decide)⟩
    · refine z_iload_n (j := 2) o dX7_voice_12 rfl ?_
      refine z_iconst (v := 3) o dX7_voice_13 (by decide) ?_
      refine z_icmple (tgt := 23) o dX7_voice_14 (by decide) (fun c12 => ?_) (fun c12 => ?_)
      · obtain ⟨vk, hvk, evk⟩ := zin_lit (n := 3) rfl (by decide) (zin_in c8 c12)
        rcases (show vk = 0 ∨ vk = 1 ∨ vk = 2 ∨ vk = 3 by omega) with rfl | rfl | rfl | rfl
        · obtain rfl : v = 0 := evk
          refine z_aload_n (j := 0) o dX7_voice_23 rfl ?_
          refine zo_get (i := 0) o hB dX7_voice_24 zf_X7_10 rfl (by decide) (rfl) ?_
          refine zo_get (i := 1) o hB dX7_voice_27 zf_X7_62 rfl (by decide) (rfl) ?_
          refine z_iload_n (j := 1) o dX7_voice_30 rfl ?_
          refine zo_aldF (i := 2) (j := fa) o hB dX7_voice_31 rfl (show fa < 4 by omega) (by decide) ?_
          refine z_astore (i := 4) (lv2 := [(4, zref B (9 + 2 * fa)), (0, zref B 0), (1, .int (nI fa)), (2, .int 0), (3, .int x)]) o dX7_voice_32 (by decide) rfl ?_
          refine z_aload_n (j := 1) o dX7_voice_34 rfl ?_
          refine zo_get (i := 0) o hB dX7_voice_35 zf_X7_32 rfl (by decide) (rfl) ?_
          refine z_iload_n (j := 3) o dX7_voice_38 rfl ?_
          refine z_aload (j := 0) o dX7_voice_39 rfl ?_
          refine zo_get (i := 9 + 2 * fa) o hB dX7_voice_41 zf_X7_86 ((zh_R (r := 1) rfl).2.2.2.2.2.2.2.1 fa (by omega)) (by decide) (rfl) ?_
          refine zo_rw (y := A 83 (6 + 13 * fa + 0)) ((hF fa (by omega)).2.1) ?_
          refine z_aload (j := 0) o dX7_voice_44 rfl ?_
          refine zo_get (i := 9 + 2 * fa) o hB dX7_voice_46 zf_X7_89 ((zh_R (r := 1) rfl).2.2.2.2.2.2.2.1 fa (by omega)) (by decide) (rfl) ?_
          refine zo_rw (y := A 83 (6 + 13 * fa + 1)) ((hF fa (by omega)).2.2.1) ?_
          refine z_iload_n (j := 2) o dX7_voice_49 rfl ?_
          refine z_iload_n (j := 4) o dX7_voice_50 rfl ?_
          refine z_callVi (As := [.int 0, .int (A 83 (6 + 13 * fa + 0)), .int (A 83 (6 + 13 * fa + 1)), .int (nI fa), .int x]) (n := 5) (st := []) o dX7_voice_51 (c_X6_answer hB M N 0 (A 83 (6 + 13 * fa + 0)) (A 83 (6 + 13 * fa + 1)) fa x (by decide)) zc_X7_245 (by decide) (i := 70) (by rw [hB]; exact zsh_lt rfl (by decide)) (zg_o rfl (by decide)) rfl rfl rfl (Nat.le_of_ble_eq_true rfl) (fun r13 g14 p15 => ?_)
          obtain ⟨M16, rfl, hX, ex, e1, e71, e2⟩ := p15
          have ev : sp_vo 0 (A 83 (6 + 13 * fa + 0)) (A 83 (6 + 13 * fa + 1)) fa x = vs_s (A 83 (6 + 13 * fa + 0)) fa x := rfl
          rw [ev] at ex e1 e71
          have hRv : zRl M16 N (vo_M A (vs_s (A 83 (6 + 13 * fa + 0)) fa x).2) := hR.vo hX e1 e71
          refine zo_rw (y := (vs_s (A 83 (6 + 13 * fa + 0)) fa x).1) ex ?_
          refine z_istore (i := 5) (lv2 := [(5, .int ((vs_s (A 83 (6 + 13 * fa + 0)) fa x).1)), (4, zref B (9 + 2 * fa)), (0, zref B 0), (1, .int (nI fa)), (2, .int 0), (3, .int x)]) o dX7_voice_54 (by decide) rfl ?_
          refine z_aload_n (j := 2) o dX7_voice_56 rfl ?_
          refine zo_get (i := 0) o hB dX7_voice_57 zf_X7_32 rfl (by decide) (rfl) ?_
          refine zo_get (i := 70) o hB dX7_voice_60 zf_X7_249 rfl (by decide) (rfl) ?_
          refine zo_rw (y := 0) (e2.trans (if_neg (by decide))) ?_
          refine z_ifeq (tgt := 75) o dX7_voice_63 (by decide) (fun c17 => ?_) (fun c17 => ?_)
          · refine z_iload (j := 0) o dX7_voice_75 rfl ?_
            have hS : sq_voice A (nI fa) 0 x = (((vs_s (A 83 (6 + 13 * fa + 0)) fa x).1), vo_M A (vs_s (A 83 (6 + 13 * fa + 0)) fa x).2) := by
              unfold sq_voice; (try rw [zn_nI (n := fa) (by omega)]); rw [if_neg c4, if_neg (zin_in c8 c12), if_pos rfl] <;> (try rfl)
            exact kret _ _ _ _ dX7_voice_77 ⟨M16, N, rfl, by rw [hS], by rw [hS]; exact hRv, (show zHi M M16 from fun j hj => hX j (by omega) (by omega))⟩
          · exact absurd c17 (by decide)
        · obtain rfl : v = 1 := evk
          refine z_aload_n (j := 0) o dX7_voice_23 rfl ?_
          refine zo_get (i := 0) o hB dX7_voice_24 zf_X7_10 rfl (by decide) (rfl) ?_
          refine zo_get (i := 1) o hB dX7_voice_27 zf_X7_62 rfl (by decide) (rfl) ?_
          refine z_iload_n (j := 1) o dX7_voice_30 rfl ?_
          refine zo_aldF (i := 2) (j := fa) o hB dX7_voice_31 rfl (show fa < 4 by omega) (by decide) ?_
          refine z_astore (i := 4) (lv2 := [(4, zref B (9 + 2 * fa)), (0, zref B 0), (1, .int (nI fa)), (2, .int 1), (3, .int x)]) o dX7_voice_32 (by decide) rfl ?_
          refine z_aload_n (j := 1) o dX7_voice_34 rfl ?_
          refine zo_get (i := 0) o hB dX7_voice_35 zf_X7_32 rfl (by decide) (rfl) ?_
          refine z_iload_n (j := 3) o dX7_voice_38 rfl ?_
          refine z_aload (j := 0) o dX7_voice_39 rfl ?_
          refine zo_get (i := 9 + 2 * fa) o hB dX7_voice_41 zf_X7_86 ((zh_R (r := 1) rfl).2.2.2.2.2.2.2.1 fa (by omega)) (by decide) (rfl) ?_
          refine zo_rw (y := A 83 (6 + 13 * fa + 0)) ((hF fa (by omega)).2.1) ?_
          refine z_aload (j := 0) o dX7_voice_44 rfl ?_
          refine zo_get (i := 9 + 2 * fa) o hB dX7_voice_46 zf_X7_89 ((zh_R (r := 1) rfl).2.2.2.2.2.2.2.1 fa (by omega)) (by decide) (rfl) ?_
          refine zo_rw (y := A 83 (6 + 13 * fa + 1)) ((hF fa (by omega)).2.2.1) ?_
          refine z_iload_n (j := 2) o dX7_voice_49 rfl ?_
          refine z_iload_n (j := 4) o dX7_voice_50 rfl ?_
          refine z_callVi (As := [.int 1, .int (A 83 (6 + 13 * fa + 0)), .int (A 83 (6 + 13 * fa + 1)), .int (nI fa), .int x]) (n := 5) (st := []) o dX7_voice_51 (c_X6_answer hB M N 1 (A 83 (6 + 13 * fa + 0)) (A 83 (6 + 13 * fa + 1)) fa x (by decide)) zc_X7_245 (by decide) (i := 70) (by rw [hB]; exact zsh_lt rfl (by decide)) (zg_o rfl (by decide)) rfl rfl rfl (Nat.le_of_ble_eq_true rfl) (fun r18 g19 p20 => ?_)
          obtain ⟨M21, rfl, hX, ex, e1, e71, e2⟩ := p20
          have ev : sp_vo 1 (A 83 (6 + 13 * fa + 0)) (A 83 (6 + 13 * fa + 1)) fa x = vs_l (A 83 (6 + 13 * fa + 0)) (A 83 (6 + 13 * fa + 1)) fa x := rfl
          rw [ev] at ex e1 e71
          have hRv : zRl M21 N (vo_M A (vs_l (A 83 (6 + 13 * fa + 0)) (A 83 (6 + 13 * fa + 1)) fa x).2) := hR.vo hX e1 e71
          refine zo_rw (y := (vs_l (A 83 (6 + 13 * fa + 0)) (A 83 (6 + 13 * fa + 1)) fa x).1) ex ?_
          refine z_istore (i := 5) (lv2 := [(5, .int ((vs_l (A 83 (6 + 13 * fa + 0)) (A 83 (6 + 13 * fa + 1)) fa x).1)), (4, zref B (9 + 2 * fa)), (0, zref B 0), (1, .int (nI fa)), (2, .int 1), (3, .int x)]) o dX7_voice_54 (by decide) rfl ?_
          refine z_aload_n (j := 2) o dX7_voice_56 rfl ?_
          refine zo_get (i := 0) o hB dX7_voice_57 zf_X7_32 rfl (by decide) (rfl) ?_
          refine zo_get (i := 70) o hB dX7_voice_60 zf_X7_249 rfl (by decide) (rfl) ?_
          refine zo_rw (y := 0) (e2.trans (if_neg (by decide))) ?_
          refine z_ifeq (tgt := 75) o dX7_voice_63 (by decide) (fun c22 => ?_) (fun c22 => ?_)
          · refine z_iload (j := 0) o dX7_voice_75 rfl ?_
            have hS : sq_voice A (nI fa) 1 x = (((vs_l (A 83 (6 + 13 * fa + 0)) (A 83 (6 + 13 * fa + 1)) fa x).1), vo_M A (vs_l (A 83 (6 + 13 * fa + 0)) (A 83 (6 + 13 * fa + 1)) fa x).2) := by
              unfold sq_voice; (try rw [zn_nI (n := fa) (by omega)]); rw [if_neg c4, if_neg (zin_in c8 c12), if_neg (show ¬ (1 : Int32) = 0 by decide), if_pos rfl] <;> (try rfl)
            exact kret _ _ _ _ dX7_voice_77 ⟨M21, N, rfl, by rw [hS], by rw [hS]; exact hRv, (show zHi M M21 from fun j hj => hX j (by omega) (by omega))⟩
          · exact absurd c22 (by decide)
        · obtain rfl : v = 2 := evk
          refine z_aload_n (j := 0) o dX7_voice_23 rfl ?_
          refine zo_get (i := 0) o hB dX7_voice_24 zf_X7_10 rfl (by decide) (rfl) ?_
          refine zo_get (i := 1) o hB dX7_voice_27 zf_X7_62 rfl (by decide) (rfl) ?_
          refine z_iload_n (j := 1) o dX7_voice_30 rfl ?_
          refine zo_aldF (i := 2) (j := fa) o hB dX7_voice_31 rfl (show fa < 4 by omega) (by decide) ?_
          refine z_astore (i := 4) (lv2 := [(4, zref B (9 + 2 * fa)), (0, zref B 0), (1, .int (nI fa)), (2, .int 2), (3, .int x)]) o dX7_voice_32 (by decide) rfl ?_
          refine z_aload_n (j := 1) o dX7_voice_34 rfl ?_
          refine zo_get (i := 0) o hB dX7_voice_35 zf_X7_32 rfl (by decide) (rfl) ?_
          refine z_iload_n (j := 3) o dX7_voice_38 rfl ?_
          refine z_aload (j := 0) o dX7_voice_39 rfl ?_
          refine zo_get (i := 9 + 2 * fa) o hB dX7_voice_41 zf_X7_86 ((zh_R (r := 1) rfl).2.2.2.2.2.2.2.1 fa (by omega)) (by decide) (rfl) ?_
          refine zo_rw (y := A 83 (6 + 13 * fa + 0)) ((hF fa (by omega)).2.1) ?_
          refine z_aload (j := 0) o dX7_voice_44 rfl ?_
          refine zo_get (i := 9 + 2 * fa) o hB dX7_voice_46 zf_X7_89 ((zh_R (r := 1) rfl).2.2.2.2.2.2.2.1 fa (by omega)) (by decide) (rfl) ?_
          refine zo_rw (y := A 83 (6 + 13 * fa + 1)) ((hF fa (by omega)).2.2.1) ?_
          refine z_iload_n (j := 2) o dX7_voice_49 rfl ?_
          refine z_iload_n (j := 4) o dX7_voice_50 rfl ?_
          refine z_callVi (As := [.int 2, .int (A 83 (6 + 13 * fa + 0)), .int (A 83 (6 + 13 * fa + 1)), .int (nI fa), .int x]) (n := 5) (st := []) o dX7_voice_51 (c_X6_answer hB M N 2 (A 83 (6 + 13 * fa + 0)) (A 83 (6 + 13 * fa + 1)) fa x (by decide)) zc_X7_245 (by decide) (i := 70) (by rw [hB]; exact zsh_lt rfl (by decide)) (zg_o rfl (by decide)) rfl rfl rfl (Nat.le_of_ble_eq_true rfl) (fun r23 g24 p25 => ?_)
          obtain ⟨M26, rfl, hX, ex, e1, e71, e2⟩ := p25
          have ev : sp_vo 2 (A 83 (6 + 13 * fa + 0)) (A 83 (6 + 13 * fa + 1)) fa x = vs_r (A 83 (6 + 13 * fa + 0)) (A 83 (6 + 13 * fa + 1)) fa x := rfl
          rw [ev] at ex e1 e71
          have hRv : zRl M26 N (vo_M A (vs_r (A 83 (6 + 13 * fa + 0)) (A 83 (6 + 13 * fa + 1)) fa x).2) := hR.vo hX e1 e71
          refine zo_rw (y := (vs_r (A 83 (6 + 13 * fa + 0)) (A 83 (6 + 13 * fa + 1)) fa x).1) ex ?_
          refine z_istore (i := 5) (lv2 := [(5, .int ((vs_r (A 83 (6 + 13 * fa + 0)) (A 83 (6 + 13 * fa + 1)) fa x).1)), (4, zref B (9 + 2 * fa)), (0, zref B 0), (1, .int (nI fa)), (2, .int 2), (3, .int x)]) o dX7_voice_54 (by decide) rfl ?_
          refine z_aload_n (j := 2) o dX7_voice_56 rfl ?_
          refine zo_get (i := 0) o hB dX7_voice_57 zf_X7_32 rfl (by decide) (rfl) ?_
          refine zo_get (i := 70) o hB dX7_voice_60 zf_X7_249 rfl (by decide) (rfl) ?_
          refine zo_rw (y := 0) (e2.trans (if_neg (by decide))) ?_
          refine z_ifeq (tgt := 75) o dX7_voice_63 (by decide) (fun c27 => ?_) (fun c27 => ?_)
          · refine z_iload (j := 0) o dX7_voice_75 rfl ?_
            have hS : sq_voice A (nI fa) 2 x = (((vs_r (A 83 (6 + 13 * fa + 0)) (A 83 (6 + 13 * fa + 1)) fa x).1), vo_M A (vs_r (A 83 (6 + 13 * fa + 0)) (A 83 (6 + 13 * fa + 1)) fa x).2) := by
              unfold sq_voice; (try rw [zn_nI (n := fa) (by omega)]); rw [if_neg c4, if_neg (zin_in c8 c12), if_neg (show ¬ (2 : Int32) = 0 by decide), if_neg (show ¬ (2 : Int32) = 1 by decide), if_pos rfl] <;> (try rfl)
            exact kret _ _ _ _ dX7_voice_77 ⟨M26, N, rfl, by rw [hS], by rw [hS]; exact hRv, (show zHi M M26 from fun j hj => hX j (by omega) (by omega))⟩
          · exact absurd c27 (by decide)
        · obtain rfl : v = 3 := evk
          refine z_aload_n (j := 0) o dX7_voice_23 rfl ?_
          refine zo_get (i := 0) o hB dX7_voice_24 zf_X7_10 rfl (by decide) (rfl) ?_
          refine zo_get (i := 1) o hB dX7_voice_27 zf_X7_62 rfl (by decide) (rfl) ?_
          refine z_iload_n (j := 1) o dX7_voice_30 rfl ?_
          refine zo_aldF (i := 2) (j := fa) o hB dX7_voice_31 rfl (show fa < 4 by omega) (by decide) ?_
          refine z_astore (i := 4) (lv2 := [(4, zref B (9 + 2 * fa)), (0, zref B 0), (1, .int (nI fa)), (2, .int 3), (3, .int x)]) o dX7_voice_32 (by decide) rfl ?_
          refine z_aload_n (j := 1) o dX7_voice_34 rfl ?_
          refine zo_get (i := 0) o hB dX7_voice_35 zf_X7_32 rfl (by decide) (rfl) ?_
          refine z_iload_n (j := 3) o dX7_voice_38 rfl ?_
          refine z_aload (j := 0) o dX7_voice_39 rfl ?_
          refine zo_get (i := 9 + 2 * fa) o hB dX7_voice_41 zf_X7_86 ((zh_R (r := 1) rfl).2.2.2.2.2.2.2.1 fa (by omega)) (by decide) (rfl) ?_
          refine zo_rw (y := A 83 (6 + 13 * fa + 0)) ((hF fa (by omega)).2.1) ?_
          refine z_aload (j := 0) o dX7_voice_44 rfl ?_
          refine zo_get (i := 9 + 2 * fa) o hB dX7_voice_46 zf_X7_89 ((zh_R (r := 1) rfl).2.2.2.2.2.2.2.1 fa (by omega)) (by decide) (rfl) ?_
          refine zo_rw (y := A 83 (6 + 13 * fa + 1)) ((hF fa (by omega)).2.2.1) ?_
          refine z_iload_n (j := 2) o dX7_voice_49 rfl ?_
          refine z_iload_n (j := 4) o dX7_voice_50 rfl ?_
          refine z_callVi (As := [.int 3, .int (A 83 (6 + 13 * fa + 0)), .int (A 83 (6 + 13 * fa + 1)), .int (nI fa), .int x]) (n := 5) (st := []) o dX7_voice_51 (c_X6_answer hB M N 3 (A 83 (6 + 13 * fa + 0)) (A 83 (6 + 13 * fa + 1)) fa x (by decide)) zc_X7_245 (by decide) (i := 70) (by rw [hB]; exact zsh_lt rfl (by decide)) (zg_o rfl (by decide)) rfl rfl rfl (Nat.le_of_ble_eq_true rfl) (fun r28 g29 p30 => ?_)
          obtain ⟨M31, rfl, hX, ex, e1, e71, e2⟩ := p30
          have ev : sp_vo 3 (A 83 (6 + 13 * fa + 0)) (A 83 (6 + 13 * fa + 1)) fa x = vs_p (A 83 (6 + 13 * fa + 0)) (A 83 (6 + 13 * fa + 1)) fa x := rfl
          rw [ev] at ex e1 e71
          have hRv : zRl M31 N (vo_M A (vs_p (A 83 (6 + 13 * fa + 0)) (A 83 (6 + 13 * fa + 1)) fa x).2) := hR.vo hX e1 e71
          refine zo_rw (y := (vs_p (A 83 (6 + 13 * fa + 0)) (A 83 (6 + 13 * fa + 1)) fa x).1) ex ?_
          by_cases hby : vs_by (A 83 (6 + 13 * fa + 1)) fa = 0
          · refine z_istore (i := 5) (lv2 := [(5, .int ((vs_p (A 83 (6 + 13 * fa + 0)) (A 83 (6 + 13 * fa + 1)) fa x).1)), (4, zref B (9 + 2 * fa)), (0, zref B 0), (1, .int (nI fa)), (2, .int 3), (3, .int x)]) o dX7_voice_54 (by decide) rfl ?_
            refine z_aload_n (j := 2) o dX7_voice_56 rfl ?_
            refine zo_get (i := 0) o hB dX7_voice_57 zf_X7_32 rfl (by decide) (rfl) ?_
            refine zo_get (i := 70) o hB dX7_voice_60 zf_X7_249 rfl (by decide) (rfl) ?_
            refine zo_rw (y := 1) (e2.trans ((if_pos rfl).trans (if_pos hby))) ?_
            refine z_ifeq (tgt := 75) o dX7_voice_63 (by decide) (fun c32 => ?_) (fun c32 => ?_)
            · exact absurd c32 (by decide)
            · refine z_aload_n (j := 2) o dX7_voice_66 rfl ?_
              refine z_bipush (v := 6) o dX7_voice_67 (by decide) ?_
              refine z_callVi (As := [.int 6]) (n := 1) (st := []) o dX7_voice_69 (c_X7_error hB M31 N 6 (by decide) (by decide)) zc_X7_54 (by decide) (i := 0) (by rw [hB]; exact zsh_lt rfl (by decide)) (zg_o rfl (by decide)) rfl rfl rfl (Nat.le_of_ble_eq_true rfl) (fun r33 g34 p35 => ?_)
              obtain ⟨rfl, rfl⟩ := p35
              refine z_goto (tgt := 77) o dX7_voice_72 (by decide) ?_
              have hS : sq_voice A (nI fa) 3 x = ((zE 6), zEr (vo_M A (vs_p (A 83 (6 + 13 * fa + 0)) (A 83 (6 + 13 * fa + 1)) fa x).2) 6) := by
                unfold sq_voice; (try rw [zn_nI (n := fa) (by omega)]); rw [if_neg c4, if_neg (zin_in c8 c12), if_neg (show ¬ (3 : Int32) = 0 by decide), if_neg (show ¬ (3 : Int32) = 1 by decide), if_neg (show ¬ (3 : Int32) = 2 by decide), if_pos hby] <;> (try rfl)
              exact kret _ _ _ _ dX7_voice_77 ⟨zu M31 73 6 (M31 73 6 + 1), N, rfl, by rw [hS], by rw [hS]; exact (hRv).er (k := 6) (by decide), ((show zHi M M31 from fun j hj => hX j (by omega) (by omega))).zu (by decide)⟩
          · refine z_istore (i := 5) (lv2 := [(5, .int ((vs_p (A 83 (6 + 13 * fa + 0)) (A 83 (6 + 13 * fa + 1)) fa x).1)), (4, zref B (9 + 2 * fa)), (0, zref B 0), (1, .int (nI fa)), (2, .int 3), (3, .int x)]) o dX7_voice_54 (by decide) rfl ?_
            refine z_aload_n (j := 2) o dX7_voice_56 rfl ?_
            refine zo_get (i := 0) o hB dX7_voice_57 zf_X7_32 rfl (by decide) (rfl) ?_
            refine zo_get (i := 70) o hB dX7_voice_60 zf_X7_249 rfl (by decide) (rfl) ?_
            refine zo_rw (y := 0) (e2.trans ((if_pos rfl).trans (if_neg hby))) ?_
            refine z_ifeq (tgt := 75) o dX7_voice_63 (by decide) (fun c36 => ?_) (fun c36 => ?_)
            · refine z_iload (j := 0) o dX7_voice_75 rfl ?_
              have hS : sq_voice A (nI fa) 3 x = (((vs_p (A 83 (6 + 13 * fa + 0)) (A 83 (6 + 13 * fa + 1)) fa x).1), vo_M A (vs_p (A 83 (6 + 13 * fa + 0)) (A 83 (6 + 13 * fa + 1)) fa x).2) := by
                unfold sq_voice; (try rw [zn_nI (n := fa) (by omega)]); rw [if_neg c4, if_neg (zin_in c8 c12), if_neg (show ¬ (3 : Int32) = 0 by decide), if_neg (show ¬ (3 : Int32) = 1 by decide), if_neg (show ¬ (3 : Int32) = 2 by decide), if_neg hby] <;> (try rfl)
              exact kret _ _ _ _ dX7_voice_77 ⟨M31, N, rfl, by rw [hS], by rw [hS]; exact hRv, (show zHi M M31 from fun j hj => hX j (by omega) (by omega))⟩
            · exact absurd c36 (by decide)
      · refine z_aload_n (j := 0) o dX7_voice_17 rfl ?_
        refine z_iconst (v := 1) o dX7_voice_18 (by decide) ?_
        refine z_callVi (As := [.int 1]) (n := 1) (st := []) o dX7_voice_19 (c_X7_error hB M N 1 (by decide) (by decide)) zc_X7_54 (by decide) (i := 0) (by rw [hB]; exact zsh_lt rfl (by decide)) (zg_o rfl (by decide)) rfl rfl rfl (Nat.le_of_ble_eq_true rfl) (fun r37 g38 p39 => ?_)
        obtain ⟨rfl, rfl⟩ := p39
        have hS : sq_voice A (nI fa) v x = ((zE 1), zEr A 1) := by
          unfold sq_voice; (try rw [zn_nI (n := fa) (by omega)]); rw [if_neg c4, if_pos (zin_hi c12)] <;> (try rfl)
        exact kret _ _ _ _ dX7_voice_22 ⟨zu M 73 1 (M 73 1 + 1), N, rfl, by rw [hS], by rw [hS]; exact (hR).er (k := 1) (by decide), ((zHi.rf (M := M))).zu (by decide)⟩

set_option maxHeartbeats 4000000 in
set_option maxRecDepth 100000 in
theorem k_body {B : zB} (hB : znn B = 95) (M : zM) (N : zN) (A : zM) (i : Int32) (hR : zRl M N A) (hok : zOkAll (A 83)) (htr : zTrOk A) : zCi B (zg B M N) yX7_body cX7_body 2 (some .int) 1 [zref B 0, .int i] (fun r g' => ∃ (M1 : zM) (N1 : zN), g' = zg B M1 N1 ∧ r = (sq_body A i).1 ∧ zRl M1 N1 (sq_body A i).2 ∧ zHi M M1) := by
  refine zCi_of (by decide +kernel) (Nat.le_of_ble_eq_true rfl) .int rfl (fun _ _ _ => rfl) ?_
  intro X o kret
  show zW X B (zg B M N) 0 [(0, zref B 0), (1, .int i)] []
  obtain ⟨hnf, hnf4⟩ := ok_nf2 hok.1
  obtain ⟨hnc, hnc6⟩ := ok_nc2 hok.1
  obtain ⟨hnt, hnt60⟩ := ok_nt2 hok.1
  obtain ⟨hnw, hnw24⟩ := ok_nw2 hok.1
  have hF : ∀ i, i < 4 → zFn (9 + 2 * i) M (A 83) i := fun i hi => hR.1.2.1 i hi
  obtain ⟨htn, htn30⟩ := tr_n2 htr
  refine z_iload_n (j := 1) o dX7_body_0 rfl ?_
  refine z_iflt (tgt := 15) o dX7_body_1 (by decide) (fun c1 => ?_) (fun c1 => ?_)
  · refine z_aload_n (j := 0) o dX7_body_15 rfl ?_
    refine z_iconst (v := 2) o dX7_body_16 (by decide) ?_
    refine z_callVi (As := [.int 2]) (n := 1) (st := []) o dX7_body_17 (c_X7_error hB M N 2 (by decide) (by decide)) zc_X7_54 (by decide) (i := 0) (by rw [hB]; exact zsh_lt rfl (by decide)) (zg_o rfl (by decide)) rfl rfl rfl (Nat.le_of_ble_eq_true rfl) (fun r2 g3 p4 => ?_)
    obtain ⟨rfl, rfl⟩ := p4
    have hS : sq_body A i = ((zE 2), zEr A 2) := by
      unfold sq_body;  rw [if_pos (zin_lo c1)] <;> (try rfl)
    exact kret _ _ _ _ dX7_body_20 ⟨zu M 73 2 (M 73 2 + 1), N, rfl, by rw [hS], by rw [hS]; exact (hR).er (k := 2) (by decide), ((zHi.rf (M := M))).zu (by decide)⟩
  · refine z_iload_n (j := 1) o dX7_body_4 rfl ?_
    refine z_aload_n (j := 0) o dX7_body_5 rfl ?_
    refine zo_get (i := 0) o hB dX7_body_6 zf_X7_32 rfl (by decide) (rfl) ?_
    refine zo_get (i := 70) o hB dX7_body_9 zf_X7_253 rfl (by decide) (rfl) ?_
    refine zo_rw (y := nI (tr_n A)) (hR.2.2.2.2.2.1.1.trans htn) ?_
    refine z_icmplt (tgt := 21) o dX7_body_12 (by decide) (fun c5 => ?_) (fun c5 => ?_)
    · have hz9 := cg_lt (f := i) (n := tr_n A) (by omega)
      rw [if_neg c1, if_pos c5, ← htn] at hz9
      have hz8 : ¬ zin i 0 (A 82 18 - 1) = 0 := by rw [← hz9]; decide
      have hz7 := hz8
      rw [htn] at hz7
      obtain ⟨ia, hia, eia⟩ := zin_nat (by omega) hz7
      subst eia
      refine z_aload_n (j := 0) o dX7_body_21 rfl ?_
      refine zo_get (i := 0) o hB dX7_body_22 zf_X7_32 rfl (by decide) (rfl) ?_
      refine zo_get (i := 70) o hB dX7_body_25 zf_X7_256 rfl (by decide) (rfl) ?_
      refine z_iload_n (j := 1) o dX7_body_28 rfl ?_
      refine zo_iald (i := 71) (j := ia) o hB dX7_body_29 rfl (show ia < 30 by omega) (by decide) ?_
      refine zo_rw (y := A 94 ia) (hR.2.2.2.2.2.1.2 ia (by omega)) ?_
      have hS : sq_body A (nI ia) = ((A 94 ia), A) := by
        unfold sq_body; (try rw [zn_nI (n := ia) (by omega)]); rw [if_neg hz8] <;> (try rfl)
      exact kret _ _ _ _ dX7_body_30 ⟨M, N, rfl, by rw [hS], by rw [hS]; exact hR, (zHi.rf (M := M))⟩
    · have hz9 := cg_lt (f := i) (n := tr_n A) (by omega)
      rw [if_neg c1, if_neg c5, ← htn] at hz9
      refine z_aload_n (j := 0) o dX7_body_15 rfl ?_
      refine z_iconst (v := 2) o dX7_body_16 (by decide) ?_
      refine z_callVi (As := [.int 2]) (n := 1) (st := []) o dX7_body_17 (c_X7_error hB M N 2 (by decide) (by decide)) zc_X7_54 (by decide) (i := 0) (by rw [hB]; exact zsh_lt rfl (by decide)) (zg_o rfl (by decide)) rfl rfl rfl (Nat.le_of_ble_eq_true rfl) (fun r6 g7 p8 => ?_)
      obtain ⟨rfl, rfl⟩ := p8
      have hS : sq_body A i = ((zE 2), zEr A 2) := by
        unfold sq_body;  rw [if_pos hz9.symm] <;> (try rfl)
      exact kret _ _ _ _ dX7_body_20 ⟨zu M 73 2 (M 73 2 + 1), N, rfl, by rw [hS], by rw [hS]; exact (hR).er (k := 2) (by decide), ((zHi.rf (M := M))).zu (by decide)⟩

