/-! the reference: the reader (3) -/
set_option maxHeartbeats 4000000 in
set_option maxRecDepth 100000 in
theorem c_X8_opens {B : zB} (hB : znn B = 95) (M : zM) (N : zN) (F op u : Nat) (v : Int32) (r : zPR) (ih1 : zPC B yX8_one cX8_one 3 5 F) (ih0 : zPC B yX8_any cX8_any 1 0 F) (ho5 : op ≤ 5) (hu : u < 2) (hok : zOkR (M 83)) (h14 : M 82 14 = nI op) (h16 : M 82 16 = nI u) (hr : r.1 = true) (hs : zPSt M r) (hlk : sp_lk (M 83) r.2.1 ≠ -1) (hF : zPm 5 r.2.1 ≤ F + 1) : zCv B (zg B M N) yX8_opens cX8_opens 2 none (8 * (6 - op)) [zref B 82, .int v] (fun g' => ∃ M' : zM, g' = zg B M' N ∧ zPCx M M' ∧ zPSt M' (sp_opn (sp_lk (M 83)) (sp_nm u) F op v r)) := by
  refine zCv_of (by decide +kernel) (Nat.le_of_ble_eq_true rfl) ?_
  intro X o kret
  show zW X B (zg B M N) 0 [(0, zref B 82), (1, .int v)] []
  obtain ⟨hnt, hnt60⟩ := ok_nt2 hok
  have hlt := sp_lk_lt hlk
  have hM2s : zPSt (zu (zu M 82 14 (nI (op + 1))) 82 13 (nI (r.2.1 + 1))) (true, r.2.1 + 1, r.2.2) := zPSt.adv (M := zu M 82 14 (nI (op + 1))) hs.f14 hr (by rw [zu_ne (by decide)]; exact hlk)
  have hM2k : zOkR ((zu (zu M 82 14 (nI (op + 1))) 82 13 (nI (r.2.1 + 1))) 83) := by rw [zu_ne (by decide), zu_ne (by decide)]; exact hok
  have hM214 : (zu (zu M 82 14 (nI (op + 1))) 82 13 (nI (r.2.1 + 1))) 82 14 = nI (op + 1) := by rw [zu_at, upd_ne (by decide), zu_at, upd_self]
  have hM216 : (zu (zu M 82 14 (nI (op + 1))) 82 13 (nI (r.2.1 + 1))) 82 16 = nI u := by rw [zu_at, upd_ne (by decide), zu_at, upd_ne (by decide)]; exact h16
  have hM283 : (zu (zu M 82 14 (nI (op + 1))) 82 13 (nI (r.2.1 + 1))) 83 = M 83 := by rw [zu_ne (by decide), zu_ne (by decide)]
  refine z_aload_n (j := 0) o dX8_opens_0 rfl ?_
  refine zo_get (i := 82) o hB dX8_opens_1 zf_X8_154 rfl (by decide) rfl ?_
  refine zo_rw (y := nI op) (h14) ?_
  refine z_iconst (v := 5) o dX8_opens_4 (by decide) ?_
  refine z_icmpne (tgt := 14) o dX8_opens_5 (by decide) (fun c1 => ?_) (fun c1 => ?_)
  · have h5 : ¬ op = 5 := fun q => c1 (by rw [q]; rfl)
    refine z_aload_n (j := 0) o dX8_opens_14 rfl ?_
    refine z_dup o dX8_opens_15 rfl ?_
    refine zo_get (i := 82) o hB dX8_opens_16 zf_X8_154 rfl (by decide) rfl ?_
    refine zo_rw (y := nI op) (h14) ?_
    refine z_iconst (v := 1) o dX8_opens_19 (by decide) ?_
    refine z_iadd o dX8_opens_20 ?_
    refine zo_rw (y := nI (op + 1)) (zn_add (rfl) (rfl)) ?_
    refine zo_put (i := 82) o hB dX8_opens_21 zp_X8_154 rfl (by decide) (by decide) (Nat.le_of_ble_eq_true rfl) ?_
    refine z_aload_n (j := 0) o dX8_opens_24 rfl ?_
    refine z_dup o dX8_opens_25 rfl ?_
    refine zo_get (i := 82) o hB dX8_opens_26 zf_X8_132 rfl (by decide) rfl ?_
    refine zo_rw (y := nI r.2.1) (by rw [zu_at, upd_ne (by decide)]; exact hs.1) ?_
    refine z_iconst (v := 1) o dX8_opens_29 (by decide) ?_
    refine z_iadd o dX8_opens_30 ?_
    refine zo_rw (y := nI (r.2.1 + 1)) (zn_add (rfl) (rfl)) ?_
    refine zo_put (i := 82) o hB dX8_opens_31 zp_X8_132 rfl (by decide) (by decide) (Nat.le_of_ble_eq_true rfl) ?_
    refine z_iload_n (j := 1) o dX8_opens_34 rfl ?_
    refine z_bipush (v := 33) o dX8_opens_35 (by decide) ?_
    refine z_icmpne (tgt := 53) o dX8_opens_37 (by decide) (fun c2 => ?_) (fun c2 => ?_)
    · have h33 : ¬ v = 33 := c2
      refine z_aload_n (j := 0) o dX8_opens_53 rfl ?_
      refine z_callVv (As := []) (n := 0) (st := []) o dX8_opens_54 (ih0 (zu (zu M 82 14 (nI (op + 1))) 82 13 (nI (r.2.1 + 1))) N (op + 1) u (true, r.2.1 + 1, r.2.2) (by omega) hu hM2k hM214 hM216 rfl hM2s (by unfold zPm at hF ⊢; show 14 * (61 - (r.2.1 + 1)) + 2 * (6 - 0) ≤ F; omega)) zc_X8_160 (by omega) (i := 82) (by rw [hB]; exact zsh_lt rfl (by decide)) (zg_o rfl (by decide)) rfl rfl rfl (Nat.le_of_ble_eq_true rfl) (fun g4 p5 => ?_)
      obtain ⟨M6, rfl, hXM6, hPM6⟩ := p5
      have e83 : M6 83 = M 83 := by rw [hXM6.1 83 (by decide) (by decide) (by decide)]; exact hM283
      have e14 : M6 82 14 = nI (op + 1) := by rw [hXM6.2 14 (by decide) (by decide) (by decide)]; exact hM214
      rw [hM283] at hPM6
      have hge : r.2.1 + 1 ≤ (sp_ps (sp_lk (M 83)) (sp_nm u) F 0 (op + 1) (true, r.2.1 + 1, r.2.2)).2.1 := (sp_ps_inv (nm := sp_nm u) (fun h q => sp_lk_T h q) (sp_nm_m1 u) F 0 (op + 1) (true, r.2.1 + 1, r.2.2) hlt).1
      generalize hq9 : sp_ps (sp_lk (M 83)) (sp_nm u) F 0 (op + 1) (true, r.2.1 + 1, r.2.2) = q9 at hPM6 hge
      have hq60 : q9.2.1 ≤ 60 := by have := hPM6.2.1; rw [e83] at this; omega
      cases hq : q9.1 with
      | false =>
        refine z_aload_n (j := 0) o dX8_opens_57 rfl ?_
        refine z_aload_n (j := 0) o dX8_opens_58 rfl ?_
        refine zo_get (i := 82) o hB dX8_opens_59 zf_X8_146 rfl (by decide) rfl ?_
        refine zo_rw (y := 1) (by rw [hPM6.2.2.1, hq]; rfl) ?_
        refine z_ifne (tgt := 74) o dX8_opens_62 (by decide) (fun c7 => ?_) (fun c7 => ?_)
        · refine z_iconst (v := 1) o dX8_opens_74 (by decide) ?_
          refine z_goto (tgt := 79) o dX8_opens_75 (by decide) ?_
          refine zo_putz (i := 82) o hB dX8_opens_79 zp_X8_146 rfl (by decide) (by decide) (Nat.le_of_ble_eq_true rfl) (by decide) ?_
          refine z_aload_n (j := 0) o dX8_opens_82 rfl ?_
          refine z_dup o dX8_opens_83 rfl ?_
          refine zo_get (i := 82) o hB dX8_opens_84 zf_X8_132 rfl (by decide) rfl ?_
          refine zo_rw (y := nI q9.2.1) (by rw [zu_at, upd_ne (by decide)]; exact hPM6.1) ?_
          refine z_aload_n (j := 0) o dX8_opens_87 rfl ?_
          refine zo_get (i := 82) o hB dX8_opens_88 zf_X8_146 rfl (by decide) rfl ?_
          refine zo_rw (y := 1) (by rw [zu_at, upd_self]) ?_
          refine z_ifeq (tgt := 98) o dX8_opens_91 (by decide) (fun c8 => ?_) (fun c8 => ?_)
          · exact absurd c8 (by decide)
          · refine z_iconst (v := 0) o dX8_opens_94 (by decide) ?_
            refine z_goto (tgt := 99) o dX8_opens_95 (by decide) ?_
            refine z_iadd o dX8_opens_99 ?_
            refine zo_rw (y := nI (q9.2.1 + 0)) (zn_add (rfl) (rfl)) ?_
            refine zo_put (i := 82) o hB dX8_opens_100 zp_X8_132 rfl (by decide) (by decide) (Nat.le_of_ble_eq_true rfl) ?_
            refine z_aload_n (j := 0) o dX8_opens_103 rfl ?_
            refine z_dup o dX8_opens_104 rfl ?_
            refine zo_get (i := 82) o hB dX8_opens_105 zf_X8_154 rfl (by decide) rfl ?_
            refine zo_rw (y := nI (op + 1)) (by rw [zu_at, upd_ne (by decide), zu_at, upd_ne (by decide)]; exact e14) ?_
            refine z_iconst (v := 1) o dX8_opens_108 (by decide) ?_
            refine z_isub o dX8_opens_109 ?_
            refine zo_rw (y := nI (op + 1 - 1)) (zn_sub (rfl) (rfl) (by omega)) ?_
            refine zo_put (i := 82) o hB dX8_opens_110 zp_X8_154 rfl (by decide) (by decide) (Nat.le_of_ble_eq_true rfl) ?_
            have hcl : sp_cl (sp_lk (M 83)) q9 = (false, q9.2.1, q9.2.2) := by unfold sp_cl; rw [hq]; rfl
            exact kret _ _ _ dX8_opens_113 ⟨_, rfl, ((hXM6.z (k := 15) (by decide)).z (k := 13) (by decide)).bk (by rw [h14]; rfl), by
              unfold sp_opn; rw [if_neg h5, if_neg h33, hq9, hcl]
              exact (hPM6.bad.same (r := (false, q9.2.1, q9.2.2))).f14⟩
        · exact absurd c7 (by decide)
      | true =>
        refine z_aload_n (j := 0) o dX8_opens_57 rfl ?_
        refine z_aload_n (j := 0) o dX8_opens_58 rfl ?_
        refine zo_get (i := 82) o hB dX8_opens_59 zf_X8_146 rfl (by decide) rfl ?_
        refine zo_rw (y := 0) (by rw [hPM6.2.2.1, hq]; rfl) ?_
        refine z_ifne (tgt := 74) o dX8_opens_62 (by decide) (fun c9 => ?_) (fun c9 => ?_)
        · exact absurd c9 (by decide)
        · refine z_aload_n (j := 0) o dX8_opens_65 rfl ?_
          refine z_callVi (As := []) (n := 0) (st := [zref B 82]) o dX8_opens_66 (c_X8_look hB M6 N q9.2.1 hPM6.1 hq60 (by rw [e83]; exact hok)) zc_X8_142 (by omega) (i := 82) (by rw [hB]; exact zsh_lt rfl (by decide)) (zg_o rfl (by decide)) rfl rfl rfl (Nat.le_of_ble_eq_true rfl) (fun r10 g11 p12 => ?_)
          obtain ⟨rfl, rfl⟩ := p12
          refine zo_rw (y := sp_lk (M 83) q9.2.1) (by rw [e83]) ?_
          refine z_bipush (v := 41) o dX8_opens_69 (by decide) ?_
          refine z_icmpeq (tgt := 78) o dX8_opens_71 (by decide) (fun c13 => ?_) (fun c13 => ?_)
          · refine z_iconst (v := 0) o dX8_opens_78 (by decide) ?_
            refine zo_putz (i := 82) o hB dX8_opens_79 zp_X8_146 rfl (by decide) (by decide) (Nat.le_of_ble_eq_true rfl) (by decide) ?_
            refine z_aload_n (j := 0) o dX8_opens_82 rfl ?_
            refine z_dup o dX8_opens_83 rfl ?_
            refine zo_get (i := 82) o hB dX8_opens_84 zf_X8_132 rfl (by decide) rfl ?_
            refine zo_rw (y := nI q9.2.1) (by rw [zu_at, upd_ne (by decide)]; exact hPM6.1) ?_
            refine z_aload_n (j := 0) o dX8_opens_87 rfl ?_
            refine zo_get (i := 82) o hB dX8_opens_88 zf_X8_146 rfl (by decide) rfl ?_
            refine zo_rw (y := 0) (by rw [zu_at, upd_self]) ?_
            refine z_ifeq (tgt := 98) o dX8_opens_91 (by decide) (fun c14 => ?_) (fun c14 => ?_)
            · refine z_iconst (v := 1) o dX8_opens_98 (by decide) ?_
              refine z_iadd o dX8_opens_99 ?_
              refine zo_rw (y := nI (q9.2.1 + 1)) (zn_add (rfl) (rfl)) ?_
              refine zo_put (i := 82) o hB dX8_opens_100 zp_X8_132 rfl (by decide) (by decide) (Nat.le_of_ble_eq_true rfl) ?_
              refine z_aload_n (j := 0) o dX8_opens_103 rfl ?_
              refine z_dup o dX8_opens_104 rfl ?_
              refine zo_get (i := 82) o hB dX8_opens_105 zf_X8_154 rfl (by decide) rfl ?_
              refine zo_rw (y := nI (op + 1)) (by rw [zu_at, upd_ne (by decide), zu_at, upd_ne (by decide)]; exact e14) ?_
              refine z_iconst (v := 1) o dX8_opens_108 (by decide) ?_
              refine z_isub o dX8_opens_109 ?_
              refine zo_rw (y := nI (op + 1 - 1)) (zn_sub (rfl) (rfl) (by omega)) ?_
              refine zo_put (i := 82) o hB dX8_opens_110 zp_X8_154 rfl (by decide) (by decide) (Nat.le_of_ble_eq_true rfl) ?_
              have hcl : sp_cl (sp_lk (M 83)) q9 = (true, q9.2.1 + 1, q9.2.2) := by unfold sp_cl; rw [hq, c13]; rfl
              exact kret _ _ _ dX8_opens_113 ⟨_, rfl, ((hXM6.z (k := 15) (by decide)).z (k := 13) (by decide)).bk (by rw [h14]; rfl), by
                unfold sp_opn; rw [if_neg h5, if_neg h33, hq9, hcl]
                have a0 := (hPM6.zu15 hq).adv hq (by rw [zu_ne (by decide), e83, c13]; decide)
                exact a0.f14⟩
            · exact absurd c14 (by decide)
          · refine z_iconst (v := 1) o dX8_opens_74 (by decide) ?_
            refine z_goto (tgt := 79) o dX8_opens_75 (by decide) ?_
            refine zo_putz (i := 82) o hB dX8_opens_79 zp_X8_146 rfl (by decide) (by decide) (Nat.le_of_ble_eq_true rfl) (by decide) ?_
            refine z_aload_n (j := 0) o dX8_opens_82 rfl ?_
            refine z_dup o dX8_opens_83 rfl ?_
            refine zo_get (i := 82) o hB dX8_opens_84 zf_X8_132 rfl (by decide) rfl ?_
            refine zo_rw (y := nI q9.2.1) (by rw [zu_at, upd_ne (by decide)]; exact hPM6.1) ?_
            refine z_aload_n (j := 0) o dX8_opens_87 rfl ?_
            refine zo_get (i := 82) o hB dX8_opens_88 zf_X8_146 rfl (by decide) rfl ?_
            refine zo_rw (y := 1) (by rw [zu_at, upd_self]) ?_
            refine z_ifeq (tgt := 98) o dX8_opens_91 (by decide) (fun c15 => ?_) (fun c15 => ?_)
            · exact absurd c15 (by decide)
            · refine z_iconst (v := 0) o dX8_opens_94 (by decide) ?_
              refine z_goto (tgt := 99) o dX8_opens_95 (by decide) ?_
              refine z_iadd o dX8_opens_99 ?_
              refine zo_rw (y := nI (q9.2.1 + 0)) (zn_add (rfl) (rfl)) ?_
              refine zo_put (i := 82) o hB dX8_opens_100 zp_X8_132 rfl (by decide) (by decide) (Nat.le_of_ble_eq_true rfl) ?_
              refine z_aload_n (j := 0) o dX8_opens_103 rfl ?_
              refine z_dup o dX8_opens_104 rfl ?_
              refine zo_get (i := 82) o hB dX8_opens_105 zf_X8_154 rfl (by decide) rfl ?_
              refine zo_rw (y := nI (op + 1)) (by rw [zu_at, upd_ne (by decide), zu_at, upd_ne (by decide)]; exact e14) ?_
              refine z_iconst (v := 1) o dX8_opens_108 (by decide) ?_
              refine z_isub o dX8_opens_109 ?_
              refine zo_rw (y := nI (op + 1 - 1)) (zn_sub (rfl) (rfl) (by omega)) ?_
              refine zo_put (i := 82) o hB dX8_opens_110 zp_X8_154 rfl (by decide) (by decide) (Nat.le_of_ble_eq_true rfl) ?_
              have hcl : sp_cl (sp_lk (M 83)) q9 = (false, q9.2.1, q9.2.2) := by unfold sp_cl; rw [hq, decide_eq_false c13]; rfl
              exact kret _ _ _ dX8_opens_113 ⟨_, rfl, ((hXM6.z (k := 15) (by decide)).z (k := 13) (by decide)).bk (by rw [h14]; rfl), by
                unfold sp_opn; rw [if_neg h5, if_neg h33, hq9, hcl]
                exact (hPM6.bad.same (r := (false, q9.2.1, q9.2.2))).f14⟩
    · have h33 : v = 33 := c2
      refine z_aload_n (j := 0) o dX8_opens_40 rfl ?_
      refine z_callVv (As := []) (n := 0) (st := []) o dX8_opens_41 (ih1 (zu (zu M 82 14 (nI (op + 1))) 82 13 (nI (r.2.1 + 1))) N (op + 1) u (true, r.2.1 + 1, r.2.2) (by omega) hu hM2k hM214 hM216 rfl hM2s (by unfold zPm at hF ⊢; show 14 * (61 - (r.2.1 + 1)) + 2 * (6 - 5) ≤ F; omega)) zc_X8_157 (by omega) (i := 82) (by rw [hB]; exact zsh_lt rfl (by decide)) (zg_o rfl (by decide)) rfl rfl rfl (Nat.le_of_ble_eq_true rfl) (fun g17 p18 => ?_)
      obtain ⟨M19, rfl, hXM19, hPM19⟩ := p18
      have e83 : M19 83 = M 83 := by rw [hXM19.1 83 (by decide) (by decide) (by decide)]; exact hM283
      have e14 : M19 82 14 = nI (op + 1) := by rw [hXM19.2 14 (by decide) (by decide) (by decide)]; exact hM214
      rw [hM283] at hPM19
      obtain ⟨hst, hge⟩ := opn_st hs hr hlk hnt60 e83 3 hPM19
      refine z_aload_n (j := 0) o dX8_opens_44 rfl ?_
      refine z_iconst (v := 3) o dX8_opens_45 (by decide) ?_
      refine z_iconst (v := 0) o dX8_opens_46 (by decide) ?_
      refine z_callVv (As := [.int 3, .int 0]) (n := 2) (st := []) o dX8_opens_47 (c_X8_step hB M19 N 3 0 hPM19.2.2.2.1) zc_X8_150 (by omega) (i := 82) (by rw [hB]; exact zsh_lt rfl (by decide)) (zg_o rfl (by decide)) rfl rfl rfl (Nat.le_of_ble_eq_true rfl) (fun g21 p22 => ?_)
      cases p22
      have f14 : (sp_step M19 3 0) 82 14 = nI (op + 1) := ((zPCx.rf (M := M19)).st (w := 3) (v := 0)).2 14 (by decide) (by decide) (by decide) |>.trans e14
      refine z_goto (tgt := 103) o dX8_opens_50 (by decide) ?_
      refine z_aload_n (j := 0) o dX8_opens_103 rfl ?_
      refine z_dup o dX8_opens_104 rfl ?_
      refine zo_get (i := 82) o hB dX8_opens_105 zf_X8_154 rfl (by decide) rfl ?_
      refine zo_rw (y := nI (op + 1)) (f14) ?_
      refine z_iconst (v := 1) o dX8_opens_108 (by decide) ?_
      refine z_isub o dX8_opens_109 ?_
      refine zo_rw (y := nI (op + 1 - 1)) (zn_sub (rfl) (rfl) (by omega)) ?_
      refine zo_put (i := 82) o hB dX8_opens_110 zp_X8_154 rfl (by decide) (by decide) (Nat.le_of_ble_eq_true rfl) ?_
      exact kret _ _ _ dX8_opens_113 ⟨_, rfl, (hXM19.st (w := 3) (v := 0)).bk (by rw [h14]; rfl), by unfold sp_opn; rw [if_neg h5, if_pos h33]; exact hst.f14⟩
  · have h5 : op = 5 := (nI_eq (b := 5) (by omega) (by decide)).mp c1
    refine z_aload_n (j := 0) o dX8_opens_8 rfl ?_
    refine z_iconst (v := 1) o dX8_opens_9 (by decide) ?_
    refine zo_putz (i := 82) o hB dX8_opens_10 zp_X8_146 rfl (by decide) (by decide) (Nat.le_of_ble_eq_true rfl) (by decide) ?_
    exact kret _ _ _ dX8_opens_13 ⟨_, rfl, zPCx.rf.z (by decide), by unfold sp_opn; rw [if_pos h5]; exact hs.bad⟩

