/-! the class: the reader (4) -/
set_option maxHeartbeats 4000000 in
set_option maxRecDepth 100000 in
theorem c_X5_readLevel {B : zB} (hB : znn B = 95) (F L : Nat) (ih : ∀ F2, F2 < F → ∀ L2, L2 ≤ 5 → zTL B F2 L2) (hQ : zTQ B F) (hL : L ≤ 5) : zTL B F L := by
  intro M N op u ρ r ho5 hu hok hx hr hs hF
  obtain ⟨hnt, hnt60⟩ := ok_nt2 hok
  refine zCi_of (by decide +kernel) (Nat.le_of_ble_eq_true rfl) .boolean rfl (fun r _ hp => by obtain ⟨M9, q1, q2, q3, q4⟩ := hp; exact zin_z r (by rw [q4]; exact zb_01 _)) ?_
  intro X o kret
  show zW X B (zg B M N) 0 [(0, zref B 67), (1, .int (nI L)), (2, .int (nI op))] []
  rcases (show L = 5 ∨ L < 5 by omega) with rfl | hL5
  · show zW X B (zg B M N) 0 [(0, zref B 67), (1, .int 5), (2, .int (nI op))] []
    refine z_iload_n (j := 1) o dX5_readLevel_0 rfl ?_
    refine z_iconst (v := 5) o dX5_readLevel_1 (by decide) ?_
    refine z_icmplt (tgt := 11) o dX5_readLevel_2 (by decide) (fun c1 => ?_) (fun c1 => ?_)
    · exact absurd c1 (by decide)
    · refine z_aload_n (j := 0) o dX5_readLevel_5 rfl ?_
      refine z_iload_n (j := 2) o dX5_readLevel_6 rfl ?_
      refine z_callVi (As := [.int (nI op)]) (n := 1) (st := []) o dX5_readLevel_7 (hQ M N op u ρ r ho5 hu hok hx hr hs hF) zc_X5_45 (by omega) (i := 67) (by rw [hB]; exact zsh_lt rfl (by decide)) (zg_o rfl (by decide)) rfl rfl rfl (Nat.le_of_ble_eq_true rfl) (fun r2 g3 p4 => ?_)
      exact kret _ _ _ _ dX5_readLevel_10 p4
  · obtain ⟨F, rfl⟩ : ∃ F0, F = F0 + 1 + 1 := ⟨F - 2, by unfold zPm at hF; omega⟩
    have hfin : zPS ρ u (F + 1 + 1) L op r = zPS ρ u (F + 1) (6 + L) op (zPS ρ u (F + 1) (L + 1) op r) := sp_ps_lv hL5
    have hge : r.2.1 ≤ (zPS ρ u (F + 1) (L + 1) op r).2.1 := (sp_ps_inv (nm := sp_nm u) (fun h q => sp_lk_T h q) (sp_nm_m1 u) (F + 1) (L + 1) op r hs.2.1).1
    refine z_iload_n (j := 1) o dX5_readLevel_0 rfl ?_
    refine z_iconst (v := 5) o dX5_readLevel_1 (by decide) ?_
    refine z_icmplt (tgt := 11) o dX5_readLevel_2 (by decide) (fun c5 => ?_) (fun c5 => ?_)
    · refine z_aload_n (j := 0) o dX5_readLevel_11 rfl ?_
      refine z_iload_n (j := 1) o dX5_readLevel_12 rfl ?_
      refine z_iconst (v := 1) o dX5_readLevel_13 (by decide) ?_
      refine z_iadd o dX5_readLevel_14 ?_
      refine zo_rw (y := nI (L + 1)) (zn_add (rfl) (rfl)) ?_
      refine z_iload_n (j := 2) o dX5_readLevel_15 rfl ?_
      refine z_callVi (As := [.int (nI (L + 1)), .int (nI op)]) (n := 2) (st := []) o dX5_readLevel_16 (ih (F + 1) (by omega) (L + 1) (by omega) M N op u ρ r ho5 hu hok hx hr hs (by unfold zPm at hF ⊢; omega)) zc_X5_41 (by omega) (i := 67) (by rw [hB]; exact zsh_lt rfl (by decide)) (zg_o rfl (by decide)) rfl rfl rfl (Nat.le_of_ble_eq_true rfl) (fun r6 g7 p8 => ?_)
      obtain ⟨M9, rfl, hXM9, hPM9, eM9⟩ := p8
      generalize zPS ρ u (F + 1) (L + 1) op r = q9 at hPM9 eM9 hge hfin
      have hq60 : q9.2.1 ≤ 60 := by have := hPM9.2.1; omega
      have hx1 := hx.cx hXM9
      cases hq : q9.1 with
      | false =>
        refine zo_rw (y := 0) (by rw [eM9, hq]; rfl) ?_
        refine z_ifne (tgt := 24) o dX5_readLevel_19 (by decide) (fun c10 => ?_) (fun c10 => ?_)
        · exact absurd c10 (by decide)
        · refine z_iconst (v := 0) o dX5_readLevel_22 (by decide) ?_
          exact kret _ _ _ _ dX5_readLevel_23 ⟨_, rfl, hXM9, by rw [hfin, show zPS ρ u (F + 1) (6 + L) op q9 = q9 from sp_ps_b (by omega) hq]; exact hPM9, by rw [hfin, show zPS ρ u (F + 1) (6 + L) op q9 = q9 from sp_ps_b (by omega) hq, hq]; rfl⟩
      | true =>
        refine zo_rw (y := 1) (by rw [eM9, hq]; rfl) ?_
        refine z_ifne (tgt := 24) o dX5_readLevel_19 (by decide) (fun c19 => ?_) (fun c19 => ?_)
        · rcases (show L = 2 ∨ L ≠ 2 by omega) with rfl | hL2
          · show zW X B (zg B M9 N) 24 [(0, zref B 67), (1, .int 2), (2, .int (nI op))] []
            have hr60 := hq60
            refine z_iload_n (j := 1) o dX5_readLevel_24 rfl ?_
            refine z_iconst (v := 2) o dX5_readLevel_25 (by decide) ?_
            refine z_icmpne (tgt := 33) o dX5_readLevel_26 (by decide) (fun c11 => ?_) (fun c11 => ?_)
            · exact absurd c11 (by decide)
            · refine z_iconst (v := 1) o dX5_readLevel_29 (by decide) ?_
              refine z_goto (tgt := 35) o dX5_readLevel_30 (by decide) ?_
              refine z_istore_n (i := 3) (lv2 := [(3, .int 1), (0, zref B 67), (1, .int 2), (2, .int (nI op))]) o dX5_readLevel_35 rfl (by decide) rfl ?_
              refine z_iconst (v := 0) o dX5_readLevel_36 (by decide) ?_
              refine z_istore (i := 4) (lv2 := [(4, .int 0), (3, .int 1), (0, zref B 67), (1, .int 2), (2, .int (nI op))]) o dX5_readLevel_37 (by decide) rfl ?_
              refine z_iload (j := 0) o dX5_readLevel_39 rfl ?_
              refine z_iload_n (j := 1) o dX5_readLevel_41 rfl ?_
              refine z_icmpge (tgt := 98) o dX5_readLevel_42 (by decide) (fun c12 => ?_) (fun c12 => ?_)
              · exact absurd c12 (by decide)
              · refine z_iload_n (j := 3) o dX5_readLevel_45 rfl ?_
                refine z_aload_n (j := 2) o dX5_readLevel_46 rfl ?_
                refine z_callVi (As := []) (n := 0) (st := [.int 2]) o dX5_readLevel_47 (c_X5_sign hB M9 N ρ u q9.2.1 hok hx1 hPM9.1 hr60) zc_X5_49 (by omega) (i := 67) (by rw [hB]; exact zsh_lt rfl (by decide)) (zg_o rfl (by decide)) rfl rfl rfl (Nat.le_of_ble_eq_true rfl) (fun r13 g14 p15 => ?_)
                obtain ⟨rfl, rfl⟩ := p15
                refine z_callSi (As := [.int 2, .int (sp_sg (sp_lk ρ q9.2.1))]) (n := 2) (st := []) o dX5_readLevel_50 (c_X5_joins hB M9 N 2 (sp_sg (sp_lk ρ q9.2.1)) (by omega)) zc_X5_53 (by omega) rfl rfl (Nat.le_of_ble_eq_true rfl) (fun r16 g17 p18 => ?_)
                obtain ⟨rfl, rfl⟩ := p18
                refine zo_rw (y := zb (sp_jo 2 (sp_lk ρ q9.2.1))) (by rw [sg_jo]) ?_
                refine z_ifeq (tgt := 98) o dX5_readLevel_53 (by decide) (fun c19 => ?_) (fun c19 => ?_)
                · have hj : sp_jo 2 (sp_lk ρ q9.2.1) = false := by
                    cases q : sp_jo 2 (sp_lk ρ q9.2.1)
                    · rfl
                    · rw [q] at c19; exact absurd c19 (by decide)
                  refine z_iconst (v := 1) o dX5_readLevel_98 (by decide) ?_
                  exact kret _ _ _ _ dX5_readLevel_99 ⟨_, rfl, hXM9, by rw [hfin, show zPS ρ u (F + 1) 8 op q9 = q9 from sp_ps_n (by decide) hj]; exact hPM9, by rw [hfin, show zPS ρ u (F + 1) 8 op q9 = q9 from sp_ps_n (by decide) hj, hq]; rfl⟩
                · have hj : sp_jo 2 (sp_lk ρ q9.2.1) = true := by
                    cases q : sp_jo 2 (sp_lk ρ q9.2.1)
                    · rw [q] at c19; exact absurd rfl c19
                    · rfl
                  have hlk : sp_lk ρ q9.2.1 ≠ -1 := fun q => by rw [q, sp_jo_m1] at hj; exact absurd hj (by decide)
                  have ha := hPM9.adv hq hlk
                  have hlt2 := sp_lk_lt hlk
                  refine z_aload_n (j := 2) o dX5_readLevel_56 rfl ?_
                  refine z_callVi (As := []) (n := 0) (st := []) o dX5_readLevel_57 (c_X5_sign hB M9 N ρ u q9.2.1 hok hx1 hPM9.1 hr60) zc_X5_49 (by omega) (i := 67) (by rw [hB]; exact zsh_lt rfl (by decide)) (zg_o rfl (by decide)) rfl rfl rfl (Nat.le_of_ble_eq_true rfl) (fun r20 g21 p22 => ?_)
                  obtain ⟨rfl, rfl⟩ := p22
                  refine z_istore (i := 5) (lv2 := [(5, .int (sp_sg (sp_lk ρ q9.2.1))), (4, .int 0), (3, .int 1), (0, zref B 67), (1, .int 2), (2, .int (nI op))]) o dX5_readLevel_60 (by decide) rfl ?_
                  refine z_aload_n (j := 3) o dX5_readLevel_62 rfl ?_
                  refine z_dup o dX5_readLevel_63 rfl ?_
                  refine zo_get (i := 67) o hB dX5_readLevel_64 zf_X5_35 rfl (by decide) (rfl) ?_
                  refine zo_rw (y := nI q9.2.1) (hPM9.1) ?_
                  refine z_iconst (v := 1) o dX5_readLevel_67 (by decide) ?_
                  refine z_iadd o dX5_readLevel_68 ?_
                  refine zo_rw (y := nI (q9.2.1 + 1)) (zn_add (rfl) (rfl)) ?_
                  refine zo_put (i := 67) o hB dX5_readLevel_69 zp_X5_35 rfl (by decide) (by decide) (Nat.le_of_ble_eq_true rfl) ?_
                  refine z_aload_n (j := 3) o dX5_readLevel_72 rfl ?_
                  refine z_iload_n (j := 4) o dX5_readLevel_73 rfl ?_
                  refine z_iconst (v := 1) o dX5_readLevel_74 (by decide) ?_
                  refine z_iadd o dX5_readLevel_75 ?_
                  refine zo_rw (y := 3) (by decide) ?_
                  refine z_iload_n (j := 5) o dX5_readLevel_76 rfl ?_
                  refine z_callVi (As := [.int 3, .int (nI op)]) (n := 2) (st := []) o dX5_readLevel_77 (ih F (by omega) 3 (by omega) (zu M9 67 4 (nI (q9.2.1 + 1))) N op u ρ (true, q9.2.1 + 1, q9.2.2) (by omega) hu hok (hx1.cx (zTCx.rf.z (Or.inr rfl))) rfl ha (by unfold zPm at hF ⊢; show 14 * (61 - (q9.2.1 + 1)) + 2 * (6 - 3) ≤ F; omega)) zc_X5_41 (by omega) (i := 67) (by rw [hB]; exact zsh_lt rfl (by decide)) (zg_o rfl (by decide)) rfl rfl rfl (Nat.le_of_ble_eq_true rfl) (fun r23 g24 p25 => ?_)
                  obtain ⟨M26, rfl, hXM26, hPM26, eM26⟩ := p25
                  have hR : zPS ρ u (F + 1) 8 op q9 = sp_ap (sp_lk ρ q9.2.1) (zPS ρ u F 3 op (true, q9.2.1 + 1, q9.2.2)) := sp_ps_8 hq hj
                  obtain ⟨hst, hge2⟩ := opd_st (b := sp_lk ρ q9.2.1) (v := 0) (c := -(sp_sg (sp_lk ρ q9.2.1))) hPM9 hq hlk hnt60 (Or.inr (Or.inr (Or.inr ⟨sp_jo_sig hj, by rw [sg_ne hlk]⟩))) hPM26
                  generalize zPS ρ u F 3 op (true, q9.2.1 + 1, q9.2.2) = p9 at hPM26 eM26 hst hR hge2
                  cases hp : p9.1 with
                  | false =>
                    refine zo_rw (y := 0) (by rw [eM26, hp]; rfl) ?_
                    refine z_ifne (tgt := 85) o dX5_readLevel_80 (by decide) (fun c27 => ?_) (fun c27 => ?_)
                    · exact absurd c27 (by decide)
                    · refine z_iconst (v := 0) o dX5_readLevel_83 (by decide) ?_
                      exact kret _ _ _ _ dX5_readLevel_84 ⟨_, rfl, ((hXM9.z (k := 4) (Or.inr rfl)).tr hXM26), by rw [hfin, hR]; exact (show sp_ap (sp_lk ρ q9.2.1) p9 = (false, p9.2.1, p9.2.2 ++ [(sp_lk ρ q9.2.1, 0)]) from by unfold sp_ap; rw [hp]) ▸ hPM26.bad, by rw [hfin, hR]; show 0 = zb p9.1; rw [hp]; rfl⟩
                  | true =>
                    refine zo_rw (y := 1) (by rw [eM26, hp]; rfl) ?_
                    refine z_ifne (tgt := 85) o dX5_readLevel_80 (by decide) (fun c28 => ?_) (fun c28 => ?_)
                    · refine z_aload_n (j := 3) o dX5_readLevel_85 rfl ?_
                      refine z_iload (j := 0) o dX5_readLevel_86 rfl ?_
                      refine z_ineg o dX5_readLevel_88 ?_
                      refine z_callVv (As := [.int (-(sp_sg (sp_lk ρ q9.2.1)))]) (n := 1) (st := []) o dX5_readLevel_89 (c_X5_add hB M26 N (-(sp_sg (sp_lk ρ q9.2.1))) hPM26.2.2.1) zc_X5_57 (by omega) (i := 67) (by rw [hB]; exact zsh_lt rfl (by decide)) (zg_o rfl (by decide)) rfl rfl rfl (Nat.le_of_ble_eq_true rfl) (fun g30 p31 => ?_)
                      cases p31
                      refine z_iinc (j := 1) (v := 1) (lv2 := [(4, .int 1), (5, .int (sp_sg (sp_lk ρ q9.2.1))), (3, .int 1), (0, zref B 67), (1, .int 2), (2, .int (nI op))]) o dX5_readLevel_92 rfl (by decide) (by decide) rfl ?_
                      refine z_goto (tgt := 39) o dX5_readLevel_95 (by decide) ?_
                      refine z_iload (j := 0) o dX5_readLevel_39 rfl ?_
                      refine z_iload_n (j := 2) o dX5_readLevel_41 rfl ?_
                      refine z_icmpge (tgt := 98) o dX5_readLevel_42 (by decide) (fun c32 => ?_) (fun c32 => ?_)
                      · refine z_iconst (v := 1) o dX5_readLevel_98 (by decide) ?_
                        exact kret _ _ _ _ dX5_readLevel_99 ⟨_, rfl, ((hXM9.z (k := 4) (Or.inr rfl)).tr hXM26).st, by rw [hfin, hR]; exact hst, by rw [hfin, hR]; show 1 = zb p9.1; rw [hp]; rfl⟩
                      · exact absurd c32 (by decide)
                    · exact absurd c28 (by decide)
          · refine z_iload_n (j := 1) o dX5_readLevel_24 rfl ?_
            refine z_iconst (v := 2) o dX5_readLevel_25 (by decide) ?_
            refine z_icmpne (tgt := 33) o dX5_readLevel_26 (by decide) (fun c33 => ?_) (fun c33 => ?_)
            · refine z_bipush (v := 60) o dX5_readLevel_33 (by decide) ?_
              refine z_istore_n (i := 3) (lv2 := [(3, .int 60), (0, zref B 67), (1, .int (nI L)), (2, .int (nI op))]) o dX5_readLevel_35 rfl (by decide) rfl ?_
              refine z_iconst (v := 0) o dX5_readLevel_36 (by decide) ?_
              refine z_istore (i := 4) (lv2 := [(4, .int 0), (3, .int 60), (0, zref B 67), (1, .int (nI L)), (2, .int (nI op))]) o dX5_readLevel_37 (by decide) rfl ?_
              have LOOP : ∀ Fq, Fq ≤ F + 1 → ∀ (M2 : zM) (r2 : zPR) (iq : Nat), zTCx M M2 → zTS ρ M2 r2 → r2.1 = true → 14 * (61 - r2.2.1) + 1 ≤ Fq → zPS ρ u (F + 1) (6 + L) op q9 = zPS ρ u Fq (6 + L) op r2 → iq ≤ r2.2.1 → zW X B (zg B M2 N) 39 [(4, .int (nI iq)), (3, .int 60), (1, .int (nI L)), (0, zref B 67), (2, .int (nI op))] [] := by
                intro Fq
                induction Fq with
                | zero => intro _ M2 r2 iq _ _ _ hm _ _; omega
                | succ Fq ih2 =>
                  intro hle M2 r2 iq hX hP hr2 hm he hiq
                  have hr60 : r2.2.1 ≤ 60 := by have := hP.2.1; omega
                  have hx2 := hx.cx hX
                  refine z_iload (j := 0) o dX5_readLevel_39 rfl ?_
                  refine z_iload_n (j := 1) o dX5_readLevel_41 rfl ?_
                  refine z_icmpge (tgt := 98) o dX5_readLevel_42 (by decide) (fun c34 => ?_) (fun c34 => ?_)
                  · have hi60 : 60 ≤ iq := by
                      rcases Nat.lt_or_ge iq 60 with q | q
                      · exact absurd (nI_lt (a := iq) (b := 60) q (by decide)) c34
                      · exact q
                    have hj : sp_jo L (sp_lk ρ r2.2.1) = false := by rw [sp_lk_T _ (by omega)]; exact sp_jo_m1
                    refine z_iconst (v := 1) o dX5_readLevel_98 (by decide) ?_
                    exact kret _ _ _ _ dX5_readLevel_99 ⟨_, rfl, hX, by rw [hfin, he, show zPS ρ u (Fq + 1) (6 + L) op r2 = r2 from sp_ps_n (by omega) (by rw [Nat.add_sub_cancel_left]; exact hj)]; exact hP, by rw [hfin, he, show zPS ρ u (Fq + 1) (6 + L) op r2 = r2 from sp_ps_n (by omega) (by rw [Nat.add_sub_cancel_left]; exact hj), hr2]; rfl⟩
                  · refine z_iload_n (j := 2) o dX5_readLevel_45 rfl ?_
                    refine z_aload_n (j := 3) o dX5_readLevel_46 rfl ?_
                    refine z_callVi (As := []) (n := 0) (st := [.int (nI L)]) o dX5_readLevel_47 (c_X5_sign hB M2 N ρ u r2.2.1 hok hx2 hP.1 hr60) zc_X5_49 (by omega) (i := 67) (by rw [hB]; exact zsh_lt rfl (by decide)) (zg_o rfl (by decide)) rfl rfl rfl (Nat.le_of_ble_eq_true rfl) (fun r35 g36 p37 => ?_)
                    obtain ⟨rfl, rfl⟩ := p37
                    refine z_callSi (As := [.int (nI L), .int (sp_sg (sp_lk ρ r2.2.1))]) (n := 2) (st := []) o dX5_readLevel_50 (c_X5_joins hB M2 N L (sp_sg (sp_lk ρ r2.2.1)) (by omega)) zc_X5_53 (by omega) rfl rfl (Nat.le_of_ble_eq_true rfl) (fun r38 g39 p40 => ?_)
                    obtain ⟨rfl, rfl⟩ := p40
                    refine zo_rw (y := zb (sp_jo L (sp_lk ρ r2.2.1))) (by rw [sg_jo]) ?_
                    refine z_ifeq (tgt := 98) o dX5_readLevel_53 (by decide) (fun c41 => ?_) (fun c41 => ?_)
                    · have hj : sp_jo L (sp_lk ρ r2.2.1) = false := by
                        cases q : sp_jo L (sp_lk ρ r2.2.1)
                        · rfl
                        · rw [q] at c41; exact absurd c41 (by decide)
                      refine z_iconst (v := 1) o dX5_readLevel_98 (by decide) ?_
                      exact kret _ _ _ _ dX5_readLevel_99 ⟨_, rfl, hX, by rw [hfin, he, show zPS ρ u (Fq + 1) (6 + L) op r2 = r2 from sp_ps_n (by omega) (by rw [Nat.add_sub_cancel_left]; exact hj)]; exact hP, by rw [hfin, he, show zPS ρ u (Fq + 1) (6 + L) op r2 = r2 from sp_ps_n (by omega) (by rw [Nat.add_sub_cancel_left]; exact hj), hr2]; rfl⟩
                    · have hj : sp_jo L (sp_lk ρ r2.2.1) = true := by
                        cases q : sp_jo L (sp_lk ρ r2.2.1)
                        · rw [q] at c41; exact absurd rfl c41
                        · rfl
                      have hlk : sp_lk ρ r2.2.1 ≠ -1 := fun q => by rw [q, sp_jo_m1] at hj; exact absurd hj (by decide)
                      have ha := hP.adv hr2 hlk
                      have hlt2 := sp_lk_lt hlk
                      refine z_aload_n (j := 3) o dX5_readLevel_56 rfl ?_
                      refine z_callVi (As := []) (n := 0) (st := []) o dX5_readLevel_57 (c_X5_sign hB M2 N ρ u r2.2.1 hok hx2 hP.1 hr60) zc_X5_49 (by omega) (i := 67) (by rw [hB]; exact zsh_lt rfl (by decide)) (zg_o rfl (by decide)) rfl rfl rfl (Nat.le_of_ble_eq_true rfl) (fun r42 g43 p44 => ?_)
                      obtain ⟨rfl, rfl⟩ := p44
                      refine z_istore (i := 5) (lv2 := [(5, .int (sp_sg (sp_lk ρ r2.2.1))), (4, .int (nI iq)), (3, .int 60), (1, .int (nI L)), (0, zref B 67), (2, .int (nI op))]) o dX5_readLevel_60 (by decide) rfl ?_
                      refine z_aload_n (j := 4) o dX5_readLevel_62 rfl ?_
                      refine z_dup o dX5_readLevel_63 rfl ?_
                      refine zo_get (i := 67) o hB dX5_readLevel_64 zf_X5_35 rfl (by decide) (rfl) ?_
                      refine zo_rw (y := nI r2.2.1) (hP.1) ?_
                      refine z_iconst (v := 1) o dX5_readLevel_67 (by decide) ?_
                      refine z_iadd o dX5_readLevel_68 ?_
                      refine zo_rw (y := nI (r2.2.1 + 1)) (zn_add (rfl) (rfl)) ?_
                      refine zo_put (i := 67) o hB dX5_readLevel_69 zp_X5_35 rfl (by decide) (by decide) (Nat.le_of_ble_eq_true rfl) ?_
                      refine z_aload_n (j := 4) o dX5_readLevel_72 rfl ?_
                      refine z_iload_n (j := 3) o dX5_readLevel_73 rfl ?_
                      refine z_iconst (v := 1) o dX5_readLevel_74 (by decide) ?_
                      refine z_iadd o dX5_readLevel_75 ?_
                      refine zo_rw (y := nI (L + 1)) (zn_add (rfl) (rfl)) ?_
                      refine z_iload_n (j := 5) o dX5_readLevel_76 rfl ?_
                      refine z_callVi (As := [.int (nI (L + 1)), .int (nI op)]) (n := 2) (st := []) o dX5_readLevel_77 (ih Fq (by omega) (L + 1) (by omega) (zu M2 67 4 (nI (r2.2.1 + 1))) N op u ρ (true, r2.2.1 + 1, r2.2.2) (by omega) hu hok (hx2.cx (zTCx.rf.z (Or.inr rfl))) rfl ha (by unfold zPm at hF ⊢; show 14 * (61 - (r2.2.1 + 1)) + 2 * (6 - (L + 1)) ≤ Fq; omega)) zc_X5_41 (by omega) (i := 67) (by rw [hB]; exact zsh_lt rfl (by decide)) (zg_o rfl (by decide)) rfl rfl rfl (Nat.le_of_ble_eq_true rfl) (fun r45 g46 p47 => ?_)
                      obtain ⟨M48, rfl, hXM48, hPM48, eM48⟩ := p47
                      have hR := he.trans (show zPS ρ u (Fq + 1) (6 + L) op r2 = zPS ρ u Fq (6 + L) op (sp_ap (sp_lk ρ r2.2.1) (zPS ρ u Fq (L + 1) op (true, r2.2.1 + 1, r2.2.2))) from by
                        have e5 : 6 + L - 5 = L + 1 := by omega
                        have h9 := sp_ps_y (lk := sp_lk ρ) (nm := sp_nm u) (F := Fq) (op := op) (m := 6 + L) (by omega) (by omega) hr2 (by rw [Nat.add_sub_cancel_left]; exact hj)
                        rw [e5] at h9; exact h9)
                      obtain ⟨hst, hge2⟩ := opd_st (b := sp_lk ρ r2.2.1) (v := 0) (c := -(sp_sg (sp_lk ρ r2.2.1))) hP hr2 hlk hnt60 (Or.inr (Or.inr (Or.inr ⟨sp_jo_sig hj, by rw [sg_ne hlk]⟩))) hPM48
                      generalize zPS ρ u Fq (L + 1) op (true, r2.2.1 + 1, r2.2.2) = p9 at hPM48 eM48 hst hR hge2
                      cases hp : p9.1 with
                      | false =>
                        refine zo_rw (y := 0) (by rw [eM48, hp]; rfl) ?_
                        obtain ⟨Fr, rfl⟩ : ∃ Fr, Fq = Fr + 1 := ⟨Fq - 1, by omega⟩
                        have hap : sp_ap (sp_lk ρ r2.2.1) p9 = (false, p9.2.1, p9.2.2 ++ [(sp_lk ρ r2.2.1, 0)]) := by unfold sp_ap; rw [hp]
                        have hR2 : zPS ρ u (F + 1) (6 + L) op q9 = (false, p9.2.1, p9.2.2 ++ [(sp_lk ρ r2.2.1, 0)]) := by rw [hR, hap]; exact sp_ps_b (by omega) rfl
                        refine z_ifne (tgt := 85) o dX5_readLevel_80 (by decide) (fun c49 => ?_) (fun c49 => ?_)
                        · exact absurd c49 (by decide)
                        · refine z_iconst (v := 0) o dX5_readLevel_83 (by decide) ?_
                          exact kret _ _ _ _ dX5_readLevel_84 ⟨_, rfl, ((hX.z (k := 4) (Or.inr rfl)).tr hXM48), by rw [hfin, hR2]; exact hPM48.bad, by rw [hfin, hR2]; rfl⟩
                      | true =>
                        refine zo_rw (y := 1) (by rw [eM48, hp]; rfl) ?_
                        have hap : sp_ap (sp_lk ρ r2.2.1) p9 = (p9.1, p9.2.1, p9.2.2 ++ [(sp_lk ρ r2.2.1, 0)]) := rfl
                        rw [hap] at hR
                        refine z_ifne (tgt := 85) o dX5_readLevel_80 (by decide) (fun c50 => ?_) (fun c50 => ?_)
                        · refine z_aload_n (j := 4) o dX5_readLevel_85 rfl ?_
                          refine z_iload (j := 0) o dX5_readLevel_86 rfl ?_
                          refine z_ineg o dX5_readLevel_88 ?_
                          refine z_callVv (As := [.int (-(sp_sg (sp_lk ρ r2.2.1)))]) (n := 1) (st := []) o dX5_readLevel_89 (c_X5_add hB M48 N (-(sp_sg (sp_lk ρ r2.2.1))) hPM48.2.2.1) zc_X5_57 (by omega) (i := 67) (by rw [hB]; exact zsh_lt rfl (by decide)) (zg_o rfl (by decide)) rfl rfl rfl (Nat.le_of_ble_eq_true rfl) (fun g52 p53 => ?_)
                          cases p53
                          refine z_iinc (j := 1) (v := nI (iq + 1)) (lv2 := [(4, .int (nI (iq + 1))), (5, .int (sp_sg (sp_lk ρ r2.2.1))), (3, .int 60), (1, .int (nI L)), (0, zref B 67), (2, .int (nI op))]) o dX5_readLevel_92 rfl (zn_ofInt _) (by decide) rfl ?_
                          refine z_goto (tgt := 39) o dX5_readLevel_95 (by decide) ?_
                          refine zo_lv [0, 2, 3, 4, 5] rfl ?_
                          exact ih2 (by omega) _ _ (iq + 1) ((hX.z (k := 4) (Or.inr rfl)).tr hXM48).st hst hp (by show 14 * (61 - p9.2.1) + 1 ≤ Fq; omega) hR (by show iq + 1 ≤ p9.2.1; omega)
                        · exact absurd c50 (by decide)
              refine zo_lv [0, 1, 3, 2, 4] rfl ?_
              exact LOOP (F + 1) (Nat.le_refl _) _ q9 0 hXM9 hPM9 hq (by unfold zPm at hF; omega) rfl (Nat.zero_le _)
            · exact absurd ((nI_eq (b := 2) (by omega) (by decide)).mp c33) hL2
        · exact absurd c19 (by decide)
    · exact absurd (nI_lt (a := L) (b := 5) (by omega) (by omega)) c5

theorem c_TLQ {B : zB} (hB : znn B = 95) : ∀ F : Nat, zTQ B F ∧ ∀ L, L ≤ 5 → zTL B F L := by
  intro F
  induction F using Nat.strongRecOn with
  | ind F ih =>
    have hQ := c_X5_readQ hB F (fun F2 h => ⟨(ih F2 h).1, (ih F2 h).2 0 (by decide)⟩)
    exact ⟨hQ, fun L hL => c_X5_readLevel hB F L (fun F2 h => (ih F2 h).2) hQ hL⟩
