/-! the reference: the reader (4) -/
def zPA (B : zB) (F : Nat) : Prop := zPC B yX8_one cX8_one 3 5 F ∧ zPC B yX8_times cX8_times 2 4 F ∧ zPC B yX8_sum cX8_sum 2 3 F ∧ zPC B yX8_compares cX8_compares 2 2 F ∧ zPC B yX8_all cX8_all 1 1 F ∧ zPC B yX8_any cX8_any 1 0 F
theorem sp_ps_o {lk : Nat → Int32} {nm : Int32 → Int32} {F op : Nat} {r : zPR} (n1 : nm (lk r.2.1) < 0) (h : lk r.2.1 = 33 ∨ lk r.2.1 = 40) : sp_ps lk nm (F + 1) 5 op r = sp_opn lk nm F op (lk r.2.1) r := by
  rw [sp_ps_q, if_pos n1]
  unfold sp_opn
  rcases h with h | h
  · rw [if_pos h]
    by_cases h5 : op = 5
    · rw [if_pos h5, if_pos h5]
    · rw [if_neg h5, if_neg h5, if_pos h]
  · have h33 : ¬ lk r.2.1 = 33 := by rw [h]; decide
    rw [if_neg h33, if_pos h]
    by_cases h5 : op = 5
    · rw [if_pos h5, if_pos h5]
    · rw [if_neg h5, if_neg h5, if_neg h33]
set_option maxHeartbeats 4000000 in
set_option maxRecDepth 100000 in
theorem c_X8_one {B : zB} (hB : znn B = 95) (F : Nat) (ih : ∀ F2, F2 < F → zPA B F2) : zPC B yX8_one cX8_one 3 5 F := by
  intro M N op u r ho5 hu hok h14 h16 hr hs hF
  obtain ⟨F, rfl⟩ : ∃ F0, F = F0 + 1 := ⟨F - 1, by unfold zPm at hF; omega⟩
  obtain ⟨hnt, hnt60⟩ := ok_nt2 hok
  refine zCv_of (by decide +kernel) (Nat.le_of_ble_eq_true rfl) ?_
  intro X o kret
  show zW X B (zg B M N) 0 [(0, zref B 82)] []
  have hr60 : r.2.1 ≤ 60 := by have := hs.2.1; omega
  refine z_aload_n (j := 0) o dX8_one_0 rfl ?_
  refine z_callVi (As := []) (n := 0) (st := []) o dX8_one_1 (c_X8_look hB M N r.2.1 hs.1 hr60 hok) zc_X8_142 (by omega) (i := 82) (by rw [hB]; exact zsh_lt rfl (by decide)) (zg_o rfl (by decide)) rfl rfl rfl (Nat.le_of_ble_eq_true rfl) (fun r1 g2 p3 => ?_)
  obtain ⟨rfl, rfl⟩ := p3
  refine z_istore_n (i := 1) (lv2 := [(1, .int (sp_lk (M 83) r.2.1)), (0, zref B 82)]) o dX8_one_4 rfl (by decide) rfl ?_
  refine z_aload_n (j := 1) o dX8_one_5 rfl ?_
  refine z_iload_n (j := 0) o dX8_one_6 rfl ?_
  refine z_callVi (As := [.int (sp_lk (M 83) r.2.1)]) (n := 1) (st := []) o dX8_one_7 (c_X8_nameOf hB M N u (sp_lk (M 83) r.2.1) hu h16) zc_X8_163 (by omega) (i := 82) (by rw [hB]; exact zsh_lt rfl (by decide)) (zg_o rfl (by decide)) rfl rfl rfl (Nat.le_of_ble_eq_true rfl) (fun r4 g5 p6 => ?_)
  obtain ⟨rfl, rfl⟩ := p6
  refine z_istore_n (i := 2) (lv2 := [(2, .int (sp_nm u (sp_lk (M 83) r.2.1))), (1, .int (sp_lk (M 83) r.2.1)), (0, zref B 82)]) o dX8_one_10 rfl (by decide) rfl ?_
  refine z_iload_n (j := 0) o dX8_one_11 rfl ?_
  refine z_iflt (tgt := 34) o dX8_one_12 (by decide) (fun c7 => ?_) (fun c7 => ?_)
  · have n1 : sp_nm u (sp_lk (M 83) r.2.1) < 0 := c7
    refine z_iload_n (j := 1) o dX8_one_34 rfl ?_
    refine z_bipush (v := 33) o dX8_one_35 (by decide) ?_
    refine z_icmpeq (tgt := 46) o dX8_one_37 (by decide) (fun c8 => ?_) (fun c8 => ?_)
    · have h3 : (sp_lk (M 83) r.2.1) = 33 := c8
      have hlk : sp_lk (M 83) r.2.1 ≠ -1 := by rw [h3]; decide
      refine z_aload_n (j := 2) o dX8_one_46 rfl ?_
      refine z_iload_n (j := 1) o dX8_one_47 rfl ?_
      refine z_callVv (As := [.int (sp_lk (M 83) r.2.1)]) (n := 1) (st := []) o dX8_one_48 (c_X8_opens hB M N F op u (sp_lk (M 83) r.2.1) r (ih F (by omega)).1 (ih F (by omega)).2.2.2.2.2 ho5 hu hok h14 h16 hr hs hlk hF) zc_X8_166 (by omega) (i := 82) (by rw [hB]; exact zsh_lt rfl (by decide)) (zg_o rfl (by decide)) rfl rfl rfl (Nat.le_of_ble_eq_true rfl) (fun g10 p11 => ?_)
      obtain ⟨M12, rfl, hXM12, hPM12⟩ := p11
      refine z_goto (tgt := 58) o dX8_one_51 (by decide) ?_
      exact kret _ _ _ dX8_one_58 ⟨_, rfl, hXM12, by rw [sp_ps_o n1 (Or.inl h3)]; exact hPM12⟩
    · have h33 : ¬ (sp_lk (M 83) r.2.1) = 33 := c8
      refine z_iload_n (j := 1) o dX8_one_40 rfl ?_
      refine z_bipush (v := 40) o dX8_one_41 (by decide) ?_
      refine z_icmpne (tgt := 54) o dX8_one_43 (by decide) (fun c13 => ?_) (fun c13 => ?_)
      · have h40 : ¬ (sp_lk (M 83) r.2.1) = 40 := c13
        refine z_aload_n (j := 2) o dX8_one_54 rfl ?_
        refine z_callVv (As := []) (n := 0) (st := []) o dX8_one_55 (c_X8_number hB M N r hok hr hs) zc_X8_170 (by omega) (i := 82) (by rw [hB]; exact zsh_lt rfl (by decide)) (zg_o rfl (by decide)) rfl rfl rfl (Nat.le_of_ble_eq_true rfl) (fun g15 p16 => ?_)
        obtain ⟨M17, rfl, hXM17, hPM17⟩ := p16
        exact kret _ _ _ dX8_one_58 ⟨_, rfl, hXM17, by rw [sp_ps_q, if_pos n1, if_neg h33, if_neg h40]; exact hPM17⟩
      · have h3 : (sp_lk (M 83) r.2.1) = 40 := c13
        have hlk : sp_lk (M 83) r.2.1 ≠ -1 := by rw [h3]; decide
        refine z_aload_n (j := 2) o dX8_one_46 rfl ?_
        refine z_iload_n (j := 1) o dX8_one_47 rfl ?_
        refine z_callVv (As := [.int (sp_lk (M 83) r.2.1)]) (n := 1) (st := []) o dX8_one_48 (c_X8_opens hB M N F op u (sp_lk (M 83) r.2.1) r (ih F (by omega)).1 (ih F (by omega)).2.2.2.2.2 ho5 hu hok h14 h16 hr hs hlk hF) zc_X8_166 (by omega) (i := 82) (by rw [hB]; exact zsh_lt rfl (by decide)) (zg_o rfl (by decide)) rfl rfl rfl (Nat.le_of_ble_eq_true rfl) (fun g19 p20 => ?_)
        obtain ⟨M21, rfl, hXM21, hPM21⟩ := p20
        refine z_goto (tgt := 58) o dX8_one_51 (by decide) ?_
        exact kret _ _ _ dX8_one_58 ⟨_, rfl, hXM21, by rw [sp_ps_o n1 (Or.inr h3)]; exact hPM21⟩
  · have n1 : ¬ sp_nm u (sp_lk (M 83) r.2.1) < 0 := c7
    have hlk : sp_lk (M 83) r.2.1 ≠ -1 := fun q => by rw [q] at n1; exact n1 (sp_nm_m1 u)
    have l0 := (hs.2.2.2.2 hr).2.1
    have ha := hs.adv hr hlk
    refine z_aload_n (j := 2) o dX8_one_15 rfl ?_
    refine z_dup o dX8_one_16 rfl ?_
    refine zo_get (i := 82) o hB dX8_one_17 zf_X8_132 rfl (by decide) rfl ?_
    refine zo_rw (y := nI r.2.1) (hs.1) ?_
    refine z_iconst (v := 1) o dX8_one_20 (by decide) ?_
    refine z_iadd o dX8_one_21 ?_
    refine zo_rw (y := nI (r.2.1 + 1)) (zn_add (rfl) (rfl)) ?_
    refine zo_put (i := 82) o hB dX8_one_22 zp_X8_132 rfl (by decide) (by decide) (Nat.le_of_ble_eq_true rfl) ?_
    refine z_aload_n (j := 2) o dX8_one_25 rfl ?_
    refine z_iconst (v := 2) o dX8_one_26 (by decide) ?_
    refine z_iload_n (j := 0) o dX8_one_27 rfl ?_
    refine z_callVv (As := [.int 2, .int (sp_nm u (sp_lk (M 83) r.2.1))]) (n := 2) (st := []) o dX8_one_28 (c_X8_step hB (zu M 82 13 (nI (r.2.1 + 1))) N 2 (sp_nm u (sp_lk (M 83) r.2.1)) ha.2.2.2.1) zc_X8_150 (by omega) (i := 82) (by rw [hB]; exact zsh_lt rfl (by decide)) (zg_o rfl (by decide)) rfl rfl rfl (Nat.le_of_ble_eq_true rfl) (fun g23 p24 => ?_)
    cases p24
    refine z_goto (tgt := 58) o dX8_one_31 (by decide) ?_
    exact kret _ _ _ dX8_one_58 ⟨_, rfl, (zPCx.rf.z (k := 13) (by decide)).st, by rw [sp_ps_q, if_neg n1]; exact ha.st (by rw [zu_ne (by decide)]; exact hnt60) (fun _ => by show r.2.2.length < r.2.1 + 1; omega)⟩

set_option maxHeartbeats 4000000 in
set_option maxRecDepth 100000 in
theorem c_X8_times {B : zB} (hB : znn B = 95) (F : Nat) (ih : ∀ F2, F2 < F → zPA B F2) : zPC B yX8_times cX8_times 2 4 F := by
  intro M N op u r ho5 hu hok h14 h16 hr hs hF
  obtain ⟨F, rfl⟩ : ∃ F0, F = F0 + 1 := ⟨F - 1, by unfold zPm at hF; omega⟩
  obtain ⟨hnt, hnt60⟩ := ok_nt2 hok
  refine zCv_of (by decide +kernel) (Nat.le_of_ble_eq_true rfl) ?_
  intro X o kret
  show zW X B (zg B M N) 0 [(0, zref B 82)] []
  refine z_aload_n (j := 0) o dX8_times_0 rfl ?_
  refine z_callVv (As := []) (n := 0) (st := []) o dX8_times_1 ((ih F (by omega)).1 M N op u r ho5 hu hok h14 h16 hr hs (by unfold zPm at hF ⊢; omega)) zc_X8_157 (by omega) (i := 82) (by rw [hB]; exact zsh_lt rfl (by decide)) (zg_o rfl (by decide)) rfl rfl rfl (Nat.le_of_ble_eq_true rfl) (fun g2 p3 => ?_)
  obtain ⟨M4, rfl, hXM4, hPM4⟩ := p3
  have hge : r.2.1 ≤ (sp_ps (sp_lk (M 83)) (sp_nm u) F 5 op r).2.1 := (sp_ps_inv (nm := sp_nm u) (fun h q => sp_lk_T h q) (sp_nm_m1 u) F 5 op r hs.2.1).1
  have hfin : sp_ps (sp_lk (M 83)) (sp_nm u) (F + 1) 4 op r = sp_ps (sp_lk (M 83)) (sp_nm u) F 10 op (sp_ps (sp_lk (M 83)) (sp_nm u) F 5 op r) := sp_ps_lv (by decide)
  have LOOP : ∀ Fq, Fq ≤ F → ∀ (M2 : zM) (r2 : zPR), zPCx M M2 → zPSt M2 r2 → 14 * (61 - r2.2.1) + 1 ≤ Fq → sp_ps (sp_lk (M 83)) (sp_nm u) F 10 op (sp_ps (sp_lk (M 83)) (sp_nm u) F 5 op r) = sp_ps (sp_lk (M 83)) (sp_nm u) Fq 10 op r2 → zW X B (zg B M2 N) 4 [(0, zref B 82)] [] := by
    intro Fq
    induction Fq with
    | zero => intro _ M2 r2 _ _ hm _; omega
    | succ Fq ih2 =>
      intro hle M2 r2 hX hP hm he
      have e83 : M2 83 = M 83 := hX.1 83 (by decide) (by decide) (by decide)
      have hr60 : r2.2.1 ≤ 60 := by have := hP.2.1; rw [e83] at this; omega
      have e14 : M2 82 14 = nI op := by rw [hX.2 14 (by decide) (by decide) (by decide)]; exact h14
      have e16 : M2 82 16 = nI u := by rw [hX.2 16 (by decide) (by decide) (by decide)]; exact h16
      have hok2 : zOkR (M2 83) := by rw [e83]; exact hok
      cases hr2 : r2.1 with
      | false =>
        refine z_aload_n (j := 0) o dX8_times_4 rfl ?_
        refine zo_get (i := 82) o hB dX8_times_5 zf_X8_146 rfl (by decide) rfl ?_
        refine zo_rw (y := 1) (by rw [hP.2.2.1, hr2]; rfl) ?_
        refine z_ifne (tgt := 66) o dX8_times_8 (by decide) (fun c5 => ?_) (fun c5 => ?_)
        · exact kret _ _ _ dX8_times_66 ⟨M2, rfl, hX, by rw [hfin, he, sp_ps_b (by decide) hr2]; exact hP⟩
        · exact absurd c5 (by decide)
      | true =>
        refine z_aload_n (j := 0) o dX8_times_4 rfl ?_
        refine zo_get (i := 82) o hB dX8_times_5 zf_X8_146 rfl (by decide) rfl ?_
        refine zo_rw (y := 0) (by rw [hP.2.2.1, hr2]; rfl) ?_
        refine z_ifne (tgt := 66) o dX8_times_8 (by decide) (fun c6 => ?_) (fun c6 => ?_)
        · exact absurd c6 (by decide)
        · refine z_aload_n (j := 0) o dX8_times_11 rfl ?_
          refine z_callVi (As := []) (n := 0) (st := []) o dX8_times_12 (c_X8_look hB M2 N r2.2.1 hP.1 hr60 hok2) zc_X8_142 (by omega) (i := 82) (by rw [hB]; exact zsh_lt rfl (by decide)) (zg_o rfl (by decide)) rfl rfl rfl (Nat.le_of_ble_eq_true rfl) (fun r7 g8 p9 => ?_)
          obtain ⟨rfl, rfl⟩ := p9
          refine zo_rw (y := sp_lk (M 83) r2.2.1) (by rw [e83]) ?_
          refine z_bipush (v := 42) o dX8_times_15 (by decide) ?_
          refine z_icmpeq (tgt := 38) o dX8_times_17 (by decide) (fun c10 => ?_) (fun c10 => ?_)
          · have hb : sp_lk (M 83) r2.2.1 = 42 := c10
            have hj : sp_jo (10 - 6) (sp_lk (M 83) r2.2.1) = true := by rw [hb]; decide
            have hlk : sp_lk (M2 83) r2.2.1 ≠ -1 := by rw [e83, hb]; decide
            have ha := hP.adv hr2 hlk
            have hlt2 := sp_lk_lt hlk
            refine z_aload_n (j := 0) o dX8_times_38 rfl ?_
            refine z_callVi (As := []) (n := 0) (st := []) o dX8_times_39 (c_X8_look hB M2 N r2.2.1 hP.1 hr60 hok2) zc_X8_142 (by omega) (i := 82) (by rw [hB]; exact zsh_lt rfl (by decide)) (zg_o rfl (by decide)) rfl rfl rfl (Nat.le_of_ble_eq_true rfl) (fun r11 g12 p13 => ?_)
            obtain ⟨rfl, rfl⟩ := p13
            refine zo_rw (y := sp_lk (M 83) r2.2.1) (by rw [e83]) ?_
            refine z_istore_n (i := 1) (lv2 := [(1, .int (sp_lk (M 83) r2.2.1)), (0, zref B 82)]) o dX8_times_42 rfl (by decide) rfl ?_
            refine z_aload_n (j := 1) o dX8_times_43 rfl ?_
            refine z_dup o dX8_times_44 rfl ?_
            refine zo_get (i := 82) o hB dX8_times_45 zf_X8_132 rfl (by decide) rfl ?_
            refine zo_rw (y := nI r2.2.1) (hP.1) ?_
            refine z_iconst (v := 1) o dX8_times_48 (by decide) ?_
            refine z_iadd o dX8_times_49 ?_
            refine zo_rw (y := nI (r2.2.1 + 1)) (zn_add (rfl) (rfl)) ?_
            refine zo_put (i := 82) o hB dX8_times_50 zp_X8_132 rfl (by decide) (by decide) (Nat.le_of_ble_eq_true rfl) ?_
            refine z_aload_n (j := 1) o dX8_times_53 rfl ?_
            refine z_callVv (As := []) (n := 0) (st := []) o dX8_times_54 ((ih Fq (by omega)).1 (zu M2 82 13 (nI (r2.2.1 + 1))) N op u (true, r2.2.1 + 1, r2.2.2) ho5 hu (by rw [zu_ne (by decide)]; exact hok2) (by rw [zu_at, upd_ne (by decide)]; exact e14) (by rw [zu_at, upd_ne (by decide)]; exact e16) rfl ha (by unfold zPm at hF ⊢; show 14 * (61 - (r2.2.1 + 1)) + 2 * (6 - 5) ≤ Fq; omega)) zc_X8_157 (by omega) (i := 82) (by rw [hB]; exact zsh_lt rfl (by decide)) (zg_o rfl (by decide)) rfl rfl rfl (Nat.le_of_ble_eq_true rfl) (fun g15 p16 => ?_)
            obtain ⟨M17, rfl, hXM17, hPM17⟩ := p16
            rw [show (zu M2 82 13 (nI (r2.2.1 + 1))) 83 = M2 83 from zu_ne (by decide)] at hPM17
            have e83q : M17 83 = M2 83 := by rw [hXM17.1 83 (by decide) (by decide) (by decide)]; exact zu_ne (by decide)
            obtain ⟨hst, hge2⟩ := opn_st hP hr2 hlk (by rw [e83]; exact hnt60) e83q (sp_lk (M 83) r2.2.1) hPM17
            rw [e83] at hst hge2
            refine z_aload_n (j := 1) o dX8_times_57 rfl ?_
            refine z_iload_n (j := 0) o dX8_times_58 rfl ?_
            refine z_iconst (v := 0) o dX8_times_59 (by decide) ?_
            refine z_callVv (As := [.int (sp_lk (M 83) r2.2.1), .int 0]) (n := 2) (st := []) o dX8_times_60 (c_X8_step hB M17 N (sp_lk (M 83) r2.2.1) 0 hPM17.2.2.2.1) zc_X8_150 (by omega) (i := 82) (by rw [hB]; exact zsh_lt rfl (by decide)) (zg_o rfl (by decide)) rfl rfl rfl (Nat.le_of_ble_eq_true rfl) (fun g19 p20 => ?_)
            cases p20
            refine z_goto (tgt := 4) o dX8_times_63 (by decide) ?_
            refine zo_lv [1] rfl ?_
            exact ih2 (by omega) _ _ (((hX.z (k := 13) (by decide)).tr hXM17).st) hst (by show 14 * (61 - (sp_ps (sp_lk (M 83)) (sp_nm u) Fq 5 op (true, r2.2.1 + 1, r2.2.2)).2.1) + 1 ≤ Fq; omega) (he.trans (sp_ps_y (by decide) (by decide) hr2 hj))
          · refine z_aload_n (j := 0) o dX8_times_20 rfl ?_
            refine z_callVi (As := []) (n := 0) (st := []) o dX8_times_21 (c_X8_look hB M2 N r2.2.1 hP.1 hr60 hok2) zc_X8_142 (by omega) (i := 82) (by rw [hB]; exact zsh_lt rfl (by decide)) (zg_o rfl (by decide)) rfl rfl rfl (Nat.le_of_ble_eq_true rfl) (fun r21 g22 p23 => ?_)
            obtain ⟨rfl, rfl⟩ := p23
            refine zo_rw (y := sp_lk (M 83) r2.2.1) (by rw [e83]) ?_
            refine z_bipush (v := 47) o dX8_times_24 (by decide) ?_
            refine z_icmpeq (tgt := 38) o dX8_times_26 (by decide) (fun c24 => ?_) (fun c24 => ?_)
            · have hb : sp_lk (M 83) r2.2.1 = 47 := c24
              have hj : sp_jo (10 - 6) (sp_lk (M 83) r2.2.1) = true := by rw [hb]; decide
              have hlk : sp_lk (M2 83) r2.2.1 ≠ -1 := by rw [e83, hb]; decide
              have ha := hP.adv hr2 hlk
              have hlt2 := sp_lk_lt hlk
              refine z_aload_n (j := 0) o dX8_times_38 rfl ?_
              refine z_callVi (As := []) (n := 0) (st := []) o dX8_times_39 (c_X8_look hB M2 N r2.2.1 hP.1 hr60 hok2) zc_X8_142 (by omega) (i := 82) (by rw [hB]; exact zsh_lt rfl (by decide)) (zg_o rfl (by decide)) rfl rfl rfl (Nat.le_of_ble_eq_true rfl) (fun r25 g26 p27 => ?_)
              obtain ⟨rfl, rfl⟩ := p27
              refine zo_rw (y := sp_lk (M 83) r2.2.1) (by rw [e83]) ?_
              refine z_istore_n (i := 1) (lv2 := [(1, .int (sp_lk (M 83) r2.2.1)), (0, zref B 82)]) o dX8_times_42 rfl (by decide) rfl ?_
              refine z_aload_n (j := 1) o dX8_times_43 rfl ?_
              refine z_dup o dX8_times_44 rfl ?_
              refine zo_get (i := 82) o hB dX8_times_45 zf_X8_132 rfl (by decide) rfl ?_
              refine zo_rw (y := nI r2.2.1) (hP.1) ?_
              refine z_iconst (v := 1) o dX8_times_48 (by decide) ?_
              refine z_iadd o dX8_times_49 ?_
              refine zo_rw (y := nI (r2.2.1 + 1)) (zn_add (rfl) (rfl)) ?_
              refine zo_put (i := 82) o hB dX8_times_50 zp_X8_132 rfl (by decide) (by decide) (Nat.le_of_ble_eq_true rfl) ?_
              refine z_aload_n (j := 1) o dX8_times_53 rfl ?_
              refine z_callVv (As := []) (n := 0) (st := []) o dX8_times_54 ((ih Fq (by omega)).1 (zu M2 82 13 (nI (r2.2.1 + 1))) N op u (true, r2.2.1 + 1, r2.2.2) ho5 hu (by rw [zu_ne (by decide)]; exact hok2) (by rw [zu_at, upd_ne (by decide)]; exact e14) (by rw [zu_at, upd_ne (by decide)]; exact e16) rfl ha (by unfold zPm at hF ⊢; show 14 * (61 - (r2.2.1 + 1)) + 2 * (6 - 5) ≤ Fq; omega)) zc_X8_157 (by omega) (i := 82) (by rw [hB]; exact zsh_lt rfl (by decide)) (zg_o rfl (by decide)) rfl rfl rfl (Nat.le_of_ble_eq_true rfl) (fun g29 p30 => ?_)
              obtain ⟨M31, rfl, hXM31, hPM31⟩ := p30
              rw [show (zu M2 82 13 (nI (r2.2.1 + 1))) 83 = M2 83 from zu_ne (by decide)] at hPM31
              have e83q : M31 83 = M2 83 := by rw [hXM31.1 83 (by decide) (by decide) (by decide)]; exact zu_ne (by decide)
              obtain ⟨hst, hge2⟩ := opn_st hP hr2 hlk (by rw [e83]; exact hnt60) e83q (sp_lk (M 83) r2.2.1) hPM31
              rw [e83] at hst hge2
              refine z_aload_n (j := 1) o dX8_times_57 rfl ?_
              refine z_iload_n (j := 0) o dX8_times_58 rfl ?_
              refine z_iconst (v := 0) o dX8_times_59 (by decide) ?_
              refine z_callVv (As := [.int (sp_lk (M 83) r2.2.1), .int 0]) (n := 2) (st := []) o dX8_times_60 (c_X8_step hB M31 N (sp_lk (M 83) r2.2.1) 0 hPM31.2.2.2.1) zc_X8_150 (by omega) (i := 82) (by rw [hB]; exact zsh_lt rfl (by decide)) (zg_o rfl (by decide)) rfl rfl rfl (Nat.le_of_ble_eq_true rfl) (fun g33 p34 => ?_)
              cases p34
              refine z_goto (tgt := 4) o dX8_times_63 (by decide) ?_
              refine zo_lv [1] rfl ?_
              exact ih2 (by omega) _ _ (((hX.z (k := 13) (by decide)).tr hXM31).st) hst (by show 14 * (61 - (sp_ps (sp_lk (M 83)) (sp_nm u) Fq 5 op (true, r2.2.1 + 1, r2.2.2)).2.1) + 1 ≤ Fq; omega) (he.trans (sp_ps_y (by decide) (by decide) hr2 hj))
            · refine z_aload_n (j := 0) o dX8_times_29 rfl ?_
              refine z_callVi (As := []) (n := 0) (st := []) o dX8_times_30 (c_X8_look hB M2 N r2.2.1 hP.1 hr60 hok2) zc_X8_142 (by omega) (i := 82) (by rw [hB]; exact zsh_lt rfl (by decide)) (zg_o rfl (by decide)) rfl rfl rfl (Nat.le_of_ble_eq_true rfl) (fun r35 g36 p37 => ?_)
              obtain ⟨rfl, rfl⟩ := p37
              refine zo_rw (y := sp_lk (M 83) r2.2.1) (by rw [e83]) ?_
              refine z_bipush (v := 37) o dX8_times_33 (by decide) ?_
              refine z_icmpne (tgt := 66) o dX8_times_35 (by decide) (fun c38 => ?_) (fun c38 => ?_)
              · have hj : sp_jo (10 - 6) (sp_lk (M 83) r2.2.1) = false := by unfold sp_jo; simp [c10, c24, c38]
                exact kret _ _ _ dX8_times_66 ⟨M2, rfl, hX, by rw [hfin, he, sp_ps_n (by decide) hj]; exact hP⟩
              · have hb : sp_lk (M 83) r2.2.1 = 37 := c38
                have hj : sp_jo (10 - 6) (sp_lk (M 83) r2.2.1) = true := by rw [hb]; decide
                have hlk : sp_lk (M2 83) r2.2.1 ≠ -1 := by rw [e83, hb]; decide
                have ha := hP.adv hr2 hlk
                have hlt2 := sp_lk_lt hlk
                refine z_aload_n (j := 0) o dX8_times_38 rfl ?_
                refine z_callVi (As := []) (n := 0) (st := []) o dX8_times_39 (c_X8_look hB M2 N r2.2.1 hP.1 hr60 hok2) zc_X8_142 (by omega) (i := 82) (by rw [hB]; exact zsh_lt rfl (by decide)) (zg_o rfl (by decide)) rfl rfl rfl (Nat.le_of_ble_eq_true rfl) (fun r39 g40 p41 => ?_)
                obtain ⟨rfl, rfl⟩ := p41
                refine zo_rw (y := sp_lk (M 83) r2.2.1) (by rw [e83]) ?_
                refine z_istore_n (i := 1) (lv2 := [(1, .int (sp_lk (M 83) r2.2.1)), (0, zref B 82)]) o dX8_times_42 rfl (by decide) rfl ?_
                refine z_aload_n (j := 1) o dX8_times_43 rfl ?_
                refine z_dup o dX8_times_44 rfl ?_
                refine zo_get (i := 82) o hB dX8_times_45 zf_X8_132 rfl (by decide) rfl ?_
                refine zo_rw (y := nI r2.2.1) (hP.1) ?_
                refine z_iconst (v := 1) o dX8_times_48 (by decide) ?_
                refine z_iadd o dX8_times_49 ?_
                refine zo_rw (y := nI (r2.2.1 + 1)) (zn_add (rfl) (rfl)) ?_
                refine zo_put (i := 82) o hB dX8_times_50 zp_X8_132 rfl (by decide) (by decide) (Nat.le_of_ble_eq_true rfl) ?_
                refine z_aload_n (j := 1) o dX8_times_53 rfl ?_
                refine z_callVv (As := []) (n := 0) (st := []) o dX8_times_54 ((ih Fq (by omega)).1 (zu M2 82 13 (nI (r2.2.1 + 1))) N op u (true, r2.2.1 + 1, r2.2.2) ho5 hu (by rw [zu_ne (by decide)]; exact hok2) (by rw [zu_at, upd_ne (by decide)]; exact e14) (by rw [zu_at, upd_ne (by decide)]; exact e16) rfl ha (by unfold zPm at hF ⊢; show 14 * (61 - (r2.2.1 + 1)) + 2 * (6 - 5) ≤ Fq; omega)) zc_X8_157 (by omega) (i := 82) (by rw [hB]; exact zsh_lt rfl (by decide)) (zg_o rfl (by decide)) rfl rfl rfl (Nat.le_of_ble_eq_true rfl) (fun g43 p44 => ?_)
                obtain ⟨M45, rfl, hXM45, hPM45⟩ := p44
                rw [show (zu M2 82 13 (nI (r2.2.1 + 1))) 83 = M2 83 from zu_ne (by decide)] at hPM45
                have e83q : M45 83 = M2 83 := by rw [hXM45.1 83 (by decide) (by decide) (by decide)]; exact zu_ne (by decide)
                obtain ⟨hst, hge2⟩ := opn_st hP hr2 hlk (by rw [e83]; exact hnt60) e83q (sp_lk (M 83) r2.2.1) hPM45
                rw [e83] at hst hge2
                refine z_aload_n (j := 1) o dX8_times_57 rfl ?_
                refine z_iload_n (j := 0) o dX8_times_58 rfl ?_
                refine z_iconst (v := 0) o dX8_times_59 (by decide) ?_
                refine z_callVv (As := [.int (sp_lk (M 83) r2.2.1), .int 0]) (n := 2) (st := []) o dX8_times_60 (c_X8_step hB M45 N (sp_lk (M 83) r2.2.1) 0 hPM45.2.2.2.1) zc_X8_150 (by omega) (i := 82) (by rw [hB]; exact zsh_lt rfl (by decide)) (zg_o rfl (by decide)) rfl rfl rfl (Nat.le_of_ble_eq_true rfl) (fun g47 p48 => ?_)
                cases p48
                refine z_goto (tgt := 4) o dX8_times_63 (by decide) ?_
                refine zo_lv [1] rfl ?_
                exact ih2 (by omega) _ _ (((hX.z (k := 13) (by decide)).tr hXM45).st) hst (by show 14 * (61 - (sp_ps (sp_lk (M 83)) (sp_nm u) Fq 5 op (true, r2.2.1 + 1, r2.2.2)).2.1) + 1 ≤ Fq; omega) (he.trans (sp_ps_y (by decide) (by decide) hr2 hj))
  exact LOOP F (Nat.le_refl _) M4 _ hXM4 hPM4 (by unfold zPm at hF; omega) rfl

set_option maxHeartbeats 4000000 in
set_option maxRecDepth 100000 in
theorem c_X8_sum {B : zB} (hB : znn B = 95) (F : Nat) (ih : ∀ F2, F2 < F → zPA B F2) : zPC B yX8_sum cX8_sum 2 3 F := by
  intro M N op u r ho5 hu hok h14 h16 hr hs hF
  obtain ⟨F, rfl⟩ : ∃ F0, F = F0 + 1 := ⟨F - 1, by unfold zPm at hF; omega⟩
  obtain ⟨hnt, hnt60⟩ := ok_nt2 hok
  refine zCv_of (by decide +kernel) (Nat.le_of_ble_eq_true rfl) ?_
  intro X o kret
  show zW X B (zg B M N) 0 [(0, zref B 82)] []
  refine z_aload_n (j := 0) o dX8_sum_0 rfl ?_
  refine z_callVv (As := []) (n := 0) (st := []) o dX8_sum_1 ((ih F (by omega)).2.1 M N op u r ho5 hu hok h14 h16 hr hs (by unfold zPm at hF ⊢; omega)) zc_X8_173 (by omega) (i := 82) (by rw [hB]; exact zsh_lt rfl (by decide)) (zg_o rfl (by decide)) rfl rfl rfl (Nat.le_of_ble_eq_true rfl) (fun g2 p3 => ?_)
  obtain ⟨M4, rfl, hXM4, hPM4⟩ := p3
  have hge : r.2.1 ≤ (sp_ps (sp_lk (M 83)) (sp_nm u) F 4 op r).2.1 := (sp_ps_inv (nm := sp_nm u) (fun h q => sp_lk_T h q) (sp_nm_m1 u) F 4 op r hs.2.1).1
  have hfin : sp_ps (sp_lk (M 83)) (sp_nm u) (F + 1) 3 op r = sp_ps (sp_lk (M 83)) (sp_nm u) F 9 op (sp_ps (sp_lk (M 83)) (sp_nm u) F 4 op r) := sp_ps_lv (by decide)
  have LOOP : ∀ Fq, Fq ≤ F → ∀ (M2 : zM) (r2 : zPR), zPCx M M2 → zPSt M2 r2 → 14 * (61 - r2.2.1) + 1 ≤ Fq → sp_ps (sp_lk (M 83)) (sp_nm u) F 9 op (sp_ps (sp_lk (M 83)) (sp_nm u) F 4 op r) = sp_ps (sp_lk (M 83)) (sp_nm u) Fq 9 op r2 → zW X B (zg B M2 N) 4 [(0, zref B 82)] [] := by
    intro Fq
    induction Fq with
    | zero => intro _ M2 r2 _ _ hm _; omega
    | succ Fq ih2 =>
      intro hle M2 r2 hX hP hm he
      have e83 : M2 83 = M 83 := hX.1 83 (by decide) (by decide) (by decide)
      have hr60 : r2.2.1 ≤ 60 := by have := hP.2.1; rw [e83] at this; omega
      have e14 : M2 82 14 = nI op := by rw [hX.2 14 (by decide) (by decide) (by decide)]; exact h14
      have e16 : M2 82 16 = nI u := by rw [hX.2 16 (by decide) (by decide) (by decide)]; exact h16
      have hok2 : zOkR (M2 83) := by rw [e83]; exact hok
      cases hr2 : r2.1 with
      | false =>
        refine z_aload_n (j := 0) o dX8_sum_4 rfl ?_
        refine zo_get (i := 82) o hB dX8_sum_5 zf_X8_146 rfl (by decide) rfl ?_
        refine zo_rw (y := 1) (by rw [hP.2.2.1, hr2]; rfl) ?_
        refine z_ifne (tgt := 57) o dX8_sum_8 (by decide) (fun c5 => ?_) (fun c5 => ?_)
        · exact kret _ _ _ dX8_sum_57 ⟨M2, rfl, hX, by rw [hfin, he, sp_ps_b (by decide) hr2]; exact hP⟩
        · exact absurd c5 (by decide)
      | true =>
        refine z_aload_n (j := 0) o dX8_sum_4 rfl ?_
        refine zo_get (i := 82) o hB dX8_sum_5 zf_X8_146 rfl (by decide) rfl ?_
        refine zo_rw (y := 0) (by rw [hP.2.2.1, hr2]; rfl) ?_
        refine z_ifne (tgt := 57) o dX8_sum_8 (by decide) (fun c6 => ?_) (fun c6 => ?_)
        · exact absurd c6 (by decide)
        · refine z_aload_n (j := 0) o dX8_sum_11 rfl ?_
          refine z_callVi (As := []) (n := 0) (st := []) o dX8_sum_12 (c_X8_look hB M2 N r2.2.1 hP.1 hr60 hok2) zc_X8_142 (by omega) (i := 82) (by rw [hB]; exact zsh_lt rfl (by decide)) (zg_o rfl (by decide)) rfl rfl rfl (Nat.le_of_ble_eq_true rfl) (fun r7 g8 p9 => ?_)
          obtain ⟨rfl, rfl⟩ := p9
          refine zo_rw (y := sp_lk (M 83) r2.2.1) (by rw [e83]) ?_
          refine z_bipush (v := 43) o dX8_sum_15 (by decide) ?_
          refine z_icmpeq (tgt := 29) o dX8_sum_17 (by decide) (fun c10 => ?_) (fun c10 => ?_)
          · have hb : sp_lk (M 83) r2.2.1 = 43 := c10
            have hj : sp_jo (9 - 6) (sp_lk (M 83) r2.2.1) = true := by rw [hb]; decide
            have hlk : sp_lk (M2 83) r2.2.1 ≠ -1 := by rw [e83, hb]; decide
            have ha := hP.adv hr2 hlk
            have hlt2 := sp_lk_lt hlk
            refine z_aload_n (j := 0) o dX8_sum_29 rfl ?_
            refine z_callVi (As := []) (n := 0) (st := []) o dX8_sum_30 (c_X8_look hB M2 N r2.2.1 hP.1 hr60 hok2) zc_X8_142 (by omega) (i := 82) (by rw [hB]; exact zsh_lt rfl (by decide)) (zg_o rfl (by decide)) rfl rfl rfl (Nat.le_of_ble_eq_true rfl) (fun r11 g12 p13 => ?_)
            obtain ⟨rfl, rfl⟩ := p13
            refine zo_rw (y := sp_lk (M 83) r2.2.1) (by rw [e83]) ?_
            refine z_istore_n (i := 1) (lv2 := [(1, .int (sp_lk (M 83) r2.2.1)), (0, zref B 82)]) o dX8_sum_33 rfl (by decide) rfl ?_
            refine z_aload_n (j := 1) o dX8_sum_34 rfl ?_
            refine z_dup o dX8_sum_35 rfl ?_
            refine zo_get (i := 82) o hB dX8_sum_36 zf_X8_132 rfl (by decide) rfl ?_
            refine zo_rw (y := nI r2.2.1) (hP.1) ?_
            refine z_iconst (v := 1) o dX8_sum_39 (by decide) ?_
            refine z_iadd o dX8_sum_40 ?_
            refine zo_rw (y := nI (r2.2.1 + 1)) (zn_add (rfl) (rfl)) ?_
            refine zo_put (i := 82) o hB dX8_sum_41 zp_X8_132 rfl (by decide) (by decide) (Nat.le_of_ble_eq_true rfl) ?_
            refine z_aload_n (j := 1) o dX8_sum_44 rfl ?_
            refine z_callVv (As := []) (n := 0) (st := []) o dX8_sum_45 ((ih Fq (by omega)).2.1 (zu M2 82 13 (nI (r2.2.1 + 1))) N op u (true, r2.2.1 + 1, r2.2.2) ho5 hu (by rw [zu_ne (by decide)]; exact hok2) (by rw [zu_at, upd_ne (by decide)]; exact e14) (by rw [zu_at, upd_ne (by decide)]; exact e16) rfl ha (by unfold zPm at hF ⊢; show 14 * (61 - (r2.2.1 + 1)) + 2 * (6 - 4) ≤ Fq; omega)) zc_X8_173 (by omega) (i := 82) (by rw [hB]; exact zsh_lt rfl (by decide)) (zg_o rfl (by decide)) rfl rfl rfl (Nat.le_of_ble_eq_true rfl) (fun g15 p16 => ?_)
            obtain ⟨M17, rfl, hXM17, hPM17⟩ := p16
            rw [show (zu M2 82 13 (nI (r2.2.1 + 1))) 83 = M2 83 from zu_ne (by decide)] at hPM17
            have e83q : M17 83 = M2 83 := by rw [hXM17.1 83 (by decide) (by decide) (by decide)]; exact zu_ne (by decide)
            obtain ⟨hst, hge2⟩ := opn_st hP hr2 hlk (by rw [e83]; exact hnt60) e83q (sp_lk (M 83) r2.2.1) hPM17
            rw [e83] at hst hge2
            refine z_aload_n (j := 1) o dX8_sum_48 rfl ?_
            refine z_iload_n (j := 0) o dX8_sum_49 rfl ?_
            refine z_iconst (v := 0) o dX8_sum_50 (by decide) ?_
            refine z_callVv (As := [.int (sp_lk (M 83) r2.2.1), .int 0]) (n := 2) (st := []) o dX8_sum_51 (c_X8_step hB M17 N (sp_lk (M 83) r2.2.1) 0 hPM17.2.2.2.1) zc_X8_150 (by omega) (i := 82) (by rw [hB]; exact zsh_lt rfl (by decide)) (zg_o rfl (by decide)) rfl rfl rfl (Nat.le_of_ble_eq_true rfl) (fun g19 p20 => ?_)
            cases p20
            refine z_goto (tgt := 4) o dX8_sum_54 (by decide) ?_
            refine zo_lv [1] rfl ?_
            exact ih2 (by omega) _ _ (((hX.z (k := 13) (by decide)).tr hXM17).st) hst (by show 14 * (61 - (sp_ps (sp_lk (M 83)) (sp_nm u) Fq 4 op (true, r2.2.1 + 1, r2.2.2)).2.1) + 1 ≤ Fq; omega) (he.trans (sp_ps_y (by decide) (by decide) hr2 hj))
          · refine z_aload_n (j := 0) o dX8_sum_20 rfl ?_
            refine z_callVi (As := []) (n := 0) (st := []) o dX8_sum_21 (c_X8_look hB M2 N r2.2.1 hP.1 hr60 hok2) zc_X8_142 (by omega) (i := 82) (by rw [hB]; exact zsh_lt rfl (by decide)) (zg_o rfl (by decide)) rfl rfl rfl (Nat.le_of_ble_eq_true rfl) (fun r21 g22 p23 => ?_)
            obtain ⟨rfl, rfl⟩ := p23
            refine zo_rw (y := sp_lk (M 83) r2.2.1) (by rw [e83]) ?_
            refine z_bipush (v := 45) o dX8_sum_24 (by decide) ?_
            refine z_icmpne (tgt := 57) o dX8_sum_26 (by decide) (fun c24 => ?_) (fun c24 => ?_)
            · have hj : sp_jo (9 - 6) (sp_lk (M 83) r2.2.1) = false := by unfold sp_jo; simp [c10, c24]
              exact kret _ _ _ dX8_sum_57 ⟨M2, rfl, hX, by rw [hfin, he, sp_ps_n (by decide) hj]; exact hP⟩
            · have hb : sp_lk (M 83) r2.2.1 = 45 := c24
              have hj : sp_jo (9 - 6) (sp_lk (M 83) r2.2.1) = true := by rw [hb]; decide
              have hlk : sp_lk (M2 83) r2.2.1 ≠ -1 := by rw [e83, hb]; decide
              have ha := hP.adv hr2 hlk
              have hlt2 := sp_lk_lt hlk
              refine z_aload_n (j := 0) o dX8_sum_29 rfl ?_
              refine z_callVi (As := []) (n := 0) (st := []) o dX8_sum_30 (c_X8_look hB M2 N r2.2.1 hP.1 hr60 hok2) zc_X8_142 (by omega) (i := 82) (by rw [hB]; exact zsh_lt rfl (by decide)) (zg_o rfl (by decide)) rfl rfl rfl (Nat.le_of_ble_eq_true rfl) (fun r25 g26 p27 => ?_)
              obtain ⟨rfl, rfl⟩ := p27
              refine zo_rw (y := sp_lk (M 83) r2.2.1) (by rw [e83]) ?_
              refine z_istore_n (i := 1) (lv2 := [(1, .int (sp_lk (M 83) r2.2.1)), (0, zref B 82)]) o dX8_sum_33 rfl (by decide) rfl ?_
              refine z_aload_n (j := 1) o dX8_sum_34 rfl ?_
              refine z_dup o dX8_sum_35 rfl ?_
              refine zo_get (i := 82) o hB dX8_sum_36 zf_X8_132 rfl (by decide) rfl ?_
              refine zo_rw (y := nI r2.2.1) (hP.1) ?_
              refine z_iconst (v := 1) o dX8_sum_39 (by decide) ?_
              refine z_iadd o dX8_sum_40 ?_
              refine zo_rw (y := nI (r2.2.1 + 1)) (zn_add (rfl) (rfl)) ?_
              refine zo_put (i := 82) o hB dX8_sum_41 zp_X8_132 rfl (by decide) (by decide) (Nat.le_of_ble_eq_true rfl) ?_
              refine z_aload_n (j := 1) o dX8_sum_44 rfl ?_
              refine z_callVv (As := []) (n := 0) (st := []) o dX8_sum_45 ((ih Fq (by omega)).2.1 (zu M2 82 13 (nI (r2.2.1 + 1))) N op u (true, r2.2.1 + 1, r2.2.2) ho5 hu (by rw [zu_ne (by decide)]; exact hok2) (by rw [zu_at, upd_ne (by decide)]; exact e14) (by rw [zu_at, upd_ne (by decide)]; exact e16) rfl ha (by unfold zPm at hF ⊢; show 14 * (61 - (r2.2.1 + 1)) + 2 * (6 - 4) ≤ Fq; omega)) zc_X8_173 (by omega) (i := 82) (by rw [hB]; exact zsh_lt rfl (by decide)) (zg_o rfl (by decide)) rfl rfl rfl (Nat.le_of_ble_eq_true rfl) (fun g29 p30 => ?_)
              obtain ⟨M31, rfl, hXM31, hPM31⟩ := p30
              rw [show (zu M2 82 13 (nI (r2.2.1 + 1))) 83 = M2 83 from zu_ne (by decide)] at hPM31
              have e83q : M31 83 = M2 83 := by rw [hXM31.1 83 (by decide) (by decide) (by decide)]; exact zu_ne (by decide)
              obtain ⟨hst, hge2⟩ := opn_st hP hr2 hlk (by rw [e83]; exact hnt60) e83q (sp_lk (M 83) r2.2.1) hPM31
              rw [e83] at hst hge2
              refine z_aload_n (j := 1) o dX8_sum_48 rfl ?_
              refine z_iload_n (j := 0) o dX8_sum_49 rfl ?_
              refine z_iconst (v := 0) o dX8_sum_50 (by decide) ?_
              refine z_callVv (As := [.int (sp_lk (M 83) r2.2.1), .int 0]) (n := 2) (st := []) o dX8_sum_51 (c_X8_step hB M31 N (sp_lk (M 83) r2.2.1) 0 hPM31.2.2.2.1) zc_X8_150 (by omega) (i := 82) (by rw [hB]; exact zsh_lt rfl (by decide)) (zg_o rfl (by decide)) rfl rfl rfl (Nat.le_of_ble_eq_true rfl) (fun g33 p34 => ?_)
              cases p34
              refine z_goto (tgt := 4) o dX8_sum_54 (by decide) ?_
              refine zo_lv [1] rfl ?_
              exact ih2 (by omega) _ _ (((hX.z (k := 13) (by decide)).tr hXM31).st) hst (by show 14 * (61 - (sp_ps (sp_lk (M 83)) (sp_nm u) Fq 4 op (true, r2.2.1 + 1, r2.2.2)).2.1) + 1 ≤ Fq; omega) (he.trans (sp_ps_y (by decide) (by decide) hr2 hj))
  exact LOOP F (Nat.le_refl _) M4 _ hXM4 hPM4 (by unfold zPm at hF; omega) rfl

set_option maxHeartbeats 4000000 in
set_option maxRecDepth 100000 in
theorem c_X8_all {B : zB} (hB : znn B = 95) (F : Nat) (ih : ∀ F2, F2 < F → zPA B F2) : zPC B yX8_all cX8_all 1 1 F := by
  intro M N op u r ho5 hu hok h14 h16 hr hs hF
  obtain ⟨F, rfl⟩ : ∃ F0, F = F0 + 1 := ⟨F - 1, by unfold zPm at hF; omega⟩
  obtain ⟨hnt, hnt60⟩ := ok_nt2 hok
  refine zCv_of (by decide +kernel) (Nat.le_of_ble_eq_true rfl) ?_
  intro X o kret
  show zW X B (zg B M N) 0 [(0, zref B 82)] []
  refine z_aload_n (j := 0) o dX8_all_0 rfl ?_
  refine z_callVv (As := []) (n := 0) (st := []) o dX8_all_1 ((ih F (by omega)).2.2.2.1 M N op u r ho5 hu hok h14 h16 hr hs (by unfold zPm at hF ⊢; omega)) zc_X8_179 (by omega) (i := 82) (by rw [hB]; exact zsh_lt rfl (by decide)) (zg_o rfl (by decide)) rfl rfl rfl (Nat.le_of_ble_eq_true rfl) (fun g2 p3 => ?_)
  obtain ⟨M4, rfl, hXM4, hPM4⟩ := p3
  have hge : r.2.1 ≤ (sp_ps (sp_lk (M 83)) (sp_nm u) F 2 op r).2.1 := (sp_ps_inv (nm := sp_nm u) (fun h q => sp_lk_T h q) (sp_nm_m1 u) F 2 op r hs.2.1).1
  have hfin : sp_ps (sp_lk (M 83)) (sp_nm u) (F + 1) 1 op r = sp_ps (sp_lk (M 83)) (sp_nm u) F 7 op (sp_ps (sp_lk (M 83)) (sp_nm u) F 2 op r) := sp_ps_lv (by decide)
  have LOOP : ∀ Fq, Fq ≤ F → ∀ (M2 : zM) (r2 : zPR), zPCx M M2 → zPSt M2 r2 → 14 * (61 - r2.2.1) + 1 ≤ Fq → sp_ps (sp_lk (M 83)) (sp_nm u) F 7 op (sp_ps (sp_lk (M 83)) (sp_nm u) F 2 op r) = sp_ps (sp_lk (M 83)) (sp_nm u) Fq 7 op r2 → zW X B (zg B M2 N) 4 [(0, zref B 82)] [] := by
    intro Fq
    induction Fq with
    | zero => intro _ M2 r2 _ _ hm _; omega
    | succ Fq ih2 =>
      intro hle M2 r2 hX hP hm he
      have e83 : M2 83 = M 83 := hX.1 83 (by decide) (by decide) (by decide)
      have hr60 : r2.2.1 ≤ 60 := by have := hP.2.1; rw [e83] at this; omega
      have e14 : M2 82 14 = nI op := by rw [hX.2 14 (by decide) (by decide) (by decide)]; exact h14
      have e16 : M2 82 16 = nI u := by rw [hX.2 16 (by decide) (by decide) (by decide)]; exact h16
      have hok2 : zOkR (M2 83) := by rw [e83]; exact hok
      cases hr2 : r2.1 with
      | false =>
        refine z_aload_n (j := 0) o dX8_all_4 rfl ?_
        refine zo_get (i := 82) o hB dX8_all_5 zf_X8_146 rfl (by decide) rfl ?_
        refine zo_rw (y := 1) (by rw [hP.2.2.1, hr2]; rfl) ?_
        refine z_ifne (tgt := 44) o dX8_all_8 (by decide) (fun c5 => ?_) (fun c5 => ?_)
        · exact kret _ _ _ dX8_all_44 ⟨M2, rfl, hX, by rw [hfin, he, sp_ps_b (by decide) hr2]; exact hP⟩
        · exact absurd c5 (by decide)
      | true =>
        refine z_aload_n (j := 0) o dX8_all_4 rfl ?_
        refine zo_get (i := 82) o hB dX8_all_5 zf_X8_146 rfl (by decide) rfl ?_
        refine zo_rw (y := 0) (by rw [hP.2.2.1, hr2]; rfl) ?_
        refine z_ifne (tgt := 44) o dX8_all_8 (by decide) (fun c6 => ?_) (fun c6 => ?_)
        · exact absurd c6 (by decide)
        · refine z_aload_n (j := 0) o dX8_all_11 rfl ?_
          refine z_callVi (As := []) (n := 0) (st := []) o dX8_all_12 (c_X8_look hB M2 N r2.2.1 hP.1 hr60 hok2) zc_X8_142 (by omega) (i := 82) (by rw [hB]; exact zsh_lt rfl (by decide)) (zg_o rfl (by decide)) rfl rfl rfl (Nat.le_of_ble_eq_true rfl) (fun r7 g8 p9 => ?_)
          obtain ⟨rfl, rfl⟩ := p9
          refine zo_rw (y := sp_lk (M 83) r2.2.1) (by rw [e83]) ?_
          refine z_bipush (v := 38) o dX8_all_15 (by decide) ?_
          refine z_icmpne (tgt := 44) o dX8_all_17 (by decide) (fun c10 => ?_) (fun c10 => ?_)
          · have hj : sp_jo (7 - 6) (sp_lk (M 83) r2.2.1) = false := by unfold sp_jo; simp [c10]
            exact kret _ _ _ dX8_all_44 ⟨M2, rfl, hX, by rw [hfin, he, sp_ps_n (by decide) hj]; exact hP⟩
          · have hb : sp_lk (M 83) r2.2.1 = 38 := c10
            have hj : sp_jo (7 - 6) (sp_lk (M 83) r2.2.1) = true := by rw [hb]; decide
            have hlk : sp_lk (M2 83) r2.2.1 ≠ -1 := by rw [e83, hb]; decide
            have ha := hP.adv hr2 hlk
            have hlt2 := sp_lk_lt hlk
            refine z_aload_n (j := 0) o dX8_all_20 rfl ?_
            refine z_dup o dX8_all_21 rfl ?_
            refine zo_get (i := 82) o hB dX8_all_22 zf_X8_132 rfl (by decide) rfl ?_
            refine zo_rw (y := nI r2.2.1) (hP.1) ?_
            refine z_iconst (v := 1) o dX8_all_25 (by decide) ?_
            refine z_iadd o dX8_all_26 ?_
            refine zo_rw (y := nI (r2.2.1 + 1)) (zn_add (rfl) (rfl)) ?_
            refine zo_put (i := 82) o hB dX8_all_27 zp_X8_132 rfl (by decide) (by decide) (Nat.le_of_ble_eq_true rfl) ?_
            refine z_aload_n (j := 0) o dX8_all_30 rfl ?_
            refine z_callVv (As := []) (n := 0) (st := []) o dX8_all_31 ((ih Fq (by omega)).2.2.2.1 (zu M2 82 13 (nI (r2.2.1 + 1))) N op u (true, r2.2.1 + 1, r2.2.2) ho5 hu (by rw [zu_ne (by decide)]; exact hok2) (by rw [zu_at, upd_ne (by decide)]; exact e14) (by rw [zu_at, upd_ne (by decide)]; exact e16) rfl ha (by unfold zPm at hF ⊢; show 14 * (61 - (r2.2.1 + 1)) + 2 * (6 - 2) ≤ Fq; omega)) zc_X8_179 (by omega) (i := 82) (by rw [hB]; exact zsh_lt rfl (by decide)) (zg_o rfl (by decide)) rfl rfl rfl (Nat.le_of_ble_eq_true rfl) (fun g12 p13 => ?_)
            obtain ⟨M14, rfl, hXM14, hPM14⟩ := p13
            rw [show (zu M2 82 13 (nI (r2.2.1 + 1))) 83 = M2 83 from zu_ne (by decide)] at hPM14
            have e83q : M14 83 = M2 83 := by rw [hXM14.1 83 (by decide) (by decide) (by decide)]; exact zu_ne (by decide)
            obtain ⟨hst, hge2⟩ := opn_st hP hr2 hlk (by rw [e83]; exact hnt60) e83q 38 hPM14
            rw [e83] at hst hge2
            refine z_aload_n (j := 0) o dX8_all_34 rfl ?_
            refine z_bipush (v := 38) o dX8_all_35 (by decide) ?_
            refine z_iconst (v := 0) o dX8_all_37 (by decide) ?_
            refine z_callVv (As := [.int 38, .int 0]) (n := 2) (st := []) o dX8_all_38 (c_X8_step hB M14 N 38 0 hPM14.2.2.2.1) zc_X8_150 (by omega) (i := 82) (by rw [hB]; exact zsh_lt rfl (by decide)) (zg_o rfl (by decide)) rfl rfl rfl (Nat.le_of_ble_eq_true rfl) (fun g16 p17 => ?_)
            cases p17
            refine z_goto (tgt := 4) o dX8_all_41 (by decide) ?_
            refine zo_lv [0] rfl ?_
            have he2 := he.trans (sp_ps_y (by decide) (by decide) hr2 hj)
            rw [hb] at he2
            exact ih2 (by omega) _ _ (((hX.z (k := 13) (by decide)).tr hXM14).st) hst (by show 14 * (61 - (sp_ps (sp_lk (M 83)) (sp_nm u) Fq 2 op (true, r2.2.1 + 1, r2.2.2)).2.1) + 1 ≤ Fq; omega) he2
  exact LOOP F (Nat.le_refl _) M4 _ hXM4 hPM4 (by unfold zPm at hF; omega) rfl

set_option maxHeartbeats 4000000 in
set_option maxRecDepth 100000 in
theorem c_X8_any {B : zB} (hB : znn B = 95) (F : Nat) (ih : ∀ F2, F2 < F → zPA B F2) : zPC B yX8_any cX8_any 1 0 F := by
  intro M N op u r ho5 hu hok h14 h16 hr hs hF
  obtain ⟨F, rfl⟩ : ∃ F0, F = F0 + 1 := ⟨F - 1, by unfold zPm at hF; omega⟩
  obtain ⟨hnt, hnt60⟩ := ok_nt2 hok
  refine zCv_of (by decide +kernel) (Nat.le_of_ble_eq_true rfl) ?_
  intro X o kret
  show zW X B (zg B M N) 0 [(0, zref B 82)] []
  refine z_aload_n (j := 0) o dX8_any_0 rfl ?_
  refine z_callVv (As := []) (n := 0) (st := []) o dX8_any_1 ((ih F (by omega)).2.2.2.2.1 M N op u r ho5 hu hok h14 h16 hr hs (by unfold zPm at hF ⊢; omega)) zc_X8_182 (by omega) (i := 82) (by rw [hB]; exact zsh_lt rfl (by decide)) (zg_o rfl (by decide)) rfl rfl rfl (Nat.le_of_ble_eq_true rfl) (fun g2 p3 => ?_)
  obtain ⟨M4, rfl, hXM4, hPM4⟩ := p3
  have hge : r.2.1 ≤ (sp_ps (sp_lk (M 83)) (sp_nm u) F 1 op r).2.1 := (sp_ps_inv (nm := sp_nm u) (fun h q => sp_lk_T h q) (sp_nm_m1 u) F 1 op r hs.2.1).1
  have hfin : sp_ps (sp_lk (M 83)) (sp_nm u) (F + 1) 0 op r = sp_ps (sp_lk (M 83)) (sp_nm u) F 6 op (sp_ps (sp_lk (M 83)) (sp_nm u) F 1 op r) := sp_ps_lv (by decide)
  have LOOP : ∀ Fq, Fq ≤ F → ∀ (M2 : zM) (r2 : zPR), zPCx M M2 → zPSt M2 r2 → 14 * (61 - r2.2.1) + 1 ≤ Fq → sp_ps (sp_lk (M 83)) (sp_nm u) F 6 op (sp_ps (sp_lk (M 83)) (sp_nm u) F 1 op r) = sp_ps (sp_lk (M 83)) (sp_nm u) Fq 6 op r2 → zW X B (zg B M2 N) 4 [(0, zref B 82)] [] := by
    intro Fq
    induction Fq with
    | zero => intro _ M2 r2 _ _ hm _; omega
    | succ Fq ih2 =>
      intro hle M2 r2 hX hP hm he
      have e83 : M2 83 = M 83 := hX.1 83 (by decide) (by decide) (by decide)
      have hr60 : r2.2.1 ≤ 60 := by have := hP.2.1; rw [e83] at this; omega
      have e14 : M2 82 14 = nI op := by rw [hX.2 14 (by decide) (by decide) (by decide)]; exact h14
      have e16 : M2 82 16 = nI u := by rw [hX.2 16 (by decide) (by decide) (by decide)]; exact h16
      have hok2 : zOkR (M2 83) := by rw [e83]; exact hok
      cases hr2 : r2.1 with
      | false =>
        refine z_aload_n (j := 0) o dX8_any_4 rfl ?_
        refine zo_get (i := 82) o hB dX8_any_5 zf_X8_146 rfl (by decide) rfl ?_
        refine zo_rw (y := 1) (by rw [hP.2.2.1, hr2]; rfl) ?_
        refine z_ifne (tgt := 44) o dX8_any_8 (by decide) (fun c5 => ?_) (fun c5 => ?_)
        · exact kret _ _ _ dX8_any_44 ⟨M2, rfl, hX, by rw [hfin, he, sp_ps_b (by decide) hr2]; exact hP⟩
        · exact absurd c5 (by decide)
      | true =>
        refine z_aload_n (j := 0) o dX8_any_4 rfl ?_
        refine zo_get (i := 82) o hB dX8_any_5 zf_X8_146 rfl (by decide) rfl ?_
        refine zo_rw (y := 0) (by rw [hP.2.2.1, hr2]; rfl) ?_
        refine z_ifne (tgt := 44) o dX8_any_8 (by decide) (fun c6 => ?_) (fun c6 => ?_)
        · exact absurd c6 (by decide)
        · refine z_aload_n (j := 0) o dX8_any_11 rfl ?_
          refine z_callVi (As := []) (n := 0) (st := []) o dX8_any_12 (c_X8_look hB M2 N r2.2.1 hP.1 hr60 hok2) zc_X8_142 (by omega) (i := 82) (by rw [hB]; exact zsh_lt rfl (by decide)) (zg_o rfl (by decide)) rfl rfl rfl (Nat.le_of_ble_eq_true rfl) (fun r7 g8 p9 => ?_)
          obtain ⟨rfl, rfl⟩ := p9
          refine zo_rw (y := sp_lk (M 83) r2.2.1) (by rw [e83]) ?_
          refine z_bipush (v := 124) o dX8_any_15 (by decide) ?_
          refine z_icmpne (tgt := 44) o dX8_any_17 (by decide) (fun c10 => ?_) (fun c10 => ?_)
          · have hj : sp_jo (6 - 6) (sp_lk (M 83) r2.2.1) = false := by unfold sp_jo; simp [c10]
            exact kret _ _ _ dX8_any_44 ⟨M2, rfl, hX, by rw [hfin, he, sp_ps_n (by decide) hj]; exact hP⟩
          · have hb : sp_lk (M 83) r2.2.1 = 124 := c10
            have hj : sp_jo (6 - 6) (sp_lk (M 83) r2.2.1) = true := by rw [hb]; decide
            have hlk : sp_lk (M2 83) r2.2.1 ≠ -1 := by rw [e83, hb]; decide
            have ha := hP.adv hr2 hlk
            have hlt2 := sp_lk_lt hlk
            refine z_aload_n (j := 0) o dX8_any_20 rfl ?_
            refine z_dup o dX8_any_21 rfl ?_
            refine zo_get (i := 82) o hB dX8_any_22 zf_X8_132 rfl (by decide) rfl ?_
            refine zo_rw (y := nI r2.2.1) (hP.1) ?_
            refine z_iconst (v := 1) o dX8_any_25 (by decide) ?_
            refine z_iadd o dX8_any_26 ?_
            refine zo_rw (y := nI (r2.2.1 + 1)) (zn_add (rfl) (rfl)) ?_
            refine zo_put (i := 82) o hB dX8_any_27 zp_X8_132 rfl (by decide) (by decide) (Nat.le_of_ble_eq_true rfl) ?_
            refine z_aload_n (j := 0) o dX8_any_30 rfl ?_
            refine z_callVv (As := []) (n := 0) (st := []) o dX8_any_31 ((ih Fq (by omega)).2.2.2.2.1 (zu M2 82 13 (nI (r2.2.1 + 1))) N op u (true, r2.2.1 + 1, r2.2.2) ho5 hu (by rw [zu_ne (by decide)]; exact hok2) (by rw [zu_at, upd_ne (by decide)]; exact e14) (by rw [zu_at, upd_ne (by decide)]; exact e16) rfl ha (by unfold zPm at hF ⊢; show 14 * (61 - (r2.2.1 + 1)) + 2 * (6 - 1) ≤ Fq; omega)) zc_X8_182 (by omega) (i := 82) (by rw [hB]; exact zsh_lt rfl (by decide)) (zg_o rfl (by decide)) rfl rfl rfl (Nat.le_of_ble_eq_true rfl) (fun g12 p13 => ?_)
            obtain ⟨M14, rfl, hXM14, hPM14⟩ := p13
            rw [show (zu M2 82 13 (nI (r2.2.1 + 1))) 83 = M2 83 from zu_ne (by decide)] at hPM14
            have e83q : M14 83 = M2 83 := by rw [hXM14.1 83 (by decide) (by decide) (by decide)]; exact zu_ne (by decide)
            obtain ⟨hst, hge2⟩ := opn_st hP hr2 hlk (by rw [e83]; exact hnt60) e83q 124 hPM14
            rw [e83] at hst hge2
            refine z_aload_n (j := 0) o dX8_any_34 rfl ?_
            refine z_bipush (v := 124) o dX8_any_35 (by decide) ?_
            refine z_iconst (v := 0) o dX8_any_37 (by decide) ?_
            refine z_callVv (As := [.int 124, .int 0]) (n := 2) (st := []) o dX8_any_38 (c_X8_step hB M14 N 124 0 hPM14.2.2.2.1) zc_X8_150 (by omega) (i := 82) (by rw [hB]; exact zsh_lt rfl (by decide)) (zg_o rfl (by decide)) rfl rfl rfl (Nat.le_of_ble_eq_true rfl) (fun g16 p17 => ?_)
            cases p17
            refine z_goto (tgt := 4) o dX8_any_41 (by decide) ?_
            refine zo_lv [0] rfl ?_
            have he2 := he.trans (sp_ps_y (by decide) (by decide) hr2 hj)
            rw [hb] at he2
            exact ih2 (by omega) _ _ (((hX.z (k := 13) (by decide)).tr hXM14).st) hst (by show 14 * (61 - (sp_ps (sp_lk (M 83)) (sp_nm u) Fq 1 op (true, r2.2.1 + 1, r2.2.2)).2.1) + 1 ≤ Fq; omega) he2
  exact LOOP F (Nat.le_refl _) M4 _ hXM4 hPM4 (by unfold zPm at hF; omega) rfl

set_option maxHeartbeats 4000000 in
set_option maxRecDepth 100000 in
theorem c_X8_compares {B : zB} (hB : znn B = 95) (F : Nat) (ih : ∀ F2, F2 < F → zPA B F2) : zPC B yX8_compares cX8_compares 2 2 F := by
  intro M N op u r ho5 hu hok h14 h16 hr hs hF
  obtain ⟨F, rfl⟩ : ∃ F0, F = F0 + 1 := ⟨F - 1, by unfold zPm at hF; omega⟩
  obtain ⟨hnt, hnt60⟩ := ok_nt2 hok
  refine zCv_of (by decide +kernel) (Nat.le_of_ble_eq_true rfl) ?_
  intro X o kret
  show zW X B (zg B M N) 0 [(0, zref B 82)] []
  refine z_aload_n (j := 0) o dX8_compares_0 rfl ?_
  refine z_callVv (As := []) (n := 0) (st := []) o dX8_compares_1 ((ih F (by omega)).2.2.1 M N op u r ho5 hu hok h14 h16 hr hs (by unfold zPm at hF ⊢; omega)) zc_X8_176 (by omega) (i := 82) (by rw [hB]; exact zsh_lt rfl (by decide)) (zg_o rfl (by decide)) rfl rfl rfl (Nat.le_of_ble_eq_true rfl) (fun g2 p3 => ?_)
  obtain ⟨M4, rfl, hXM4, hPM4⟩ := p3
  have hge : r.2.1 ≤ (sp_ps (sp_lk (M 83)) (sp_nm u) F 3 op r).2.1 := (sp_ps_inv (nm := sp_nm u) (fun h q => sp_lk_T h q) (sp_nm_m1 u) F 3 op r hs.2.1).1
  have hfin : sp_ps (sp_lk (M 83)) (sp_nm u) (F + 1) 2 op r = sp_ps (sp_lk (M 83)) (sp_nm u) F 8 op (sp_ps (sp_lk (M 83)) (sp_nm u) F 3 op r) := sp_ps_lv (by decide)
  generalize hr2q : sp_ps (sp_lk (M 83)) (sp_nm u) F 3 op r = r2 at hPM4 hge hfin
  have hX := hXM4
  have hP := hPM4
  obtain ⟨F, rfl⟩ : ∃ F0, F = F0 + 1 := ⟨F - 1, by unfold zPm at hF; omega⟩
  have e83 : M4 83 = M 83 := hX.1 83 (by decide) (by decide) (by decide)
  have hr60 : r2.2.1 ≤ 60 := by have := hP.2.1; rw [e83] at this; omega
  have e14 : M4 82 14 = nI op := by rw [hX.2 14 (by decide) (by decide) (by decide)]; exact h14
  have e16 : M4 82 16 = nI u := by rw [hX.2 16 (by decide) (by decide) (by decide)]; exact h16
  have hok2 : zOkR (M4 83) := by rw [e83]; exact hok
  cases hr2 : r2.1 with
  | false =>
    refine z_aload_n (j := 0) o dX8_compares_4 rfl ?_
    refine z_callVi (As := []) (n := 0) (st := []) o dX8_compares_5 (c_X8_look hB M4 N r2.2.1 hP.1 hr60 hok2) zc_X8_142 (by omega) (i := 82) (by rw [hB]; exact zsh_lt rfl (by decide)) (zg_o rfl (by decide)) rfl rfl rfl (Nat.le_of_ble_eq_true rfl) (fun r5 g6 p7 => ?_)
    obtain ⟨rfl, rfl⟩ := p7
    refine zo_rw (y := sp_lk (M 83) r2.2.1) (by rw [e83]) ?_
    refine z_istore_n (i := 1) (lv2 := [(1, .int (sp_lk (M 83) r2.2.1)), (0, zref B 82)]) o dX8_compares_8 rfl (by decide) rfl ?_
    refine z_aload_n (j := 1) o dX8_compares_9 rfl ?_
    refine zo_get (i := 82) o hB dX8_compares_10 zf_X8_146 rfl (by decide) rfl ?_
    refine zo_rw (y := 1) (by rw [hP.2.2.1, hr2]; rfl) ?_
    refine z_ifne (tgt := 54) o dX8_compares_13 (by decide) (fun c8 => ?_) (fun c8 => ?_)
    · exact kret _ _ _ dX8_compares_54 ⟨M4, rfl, hX, by rw [hfin, sp_ps_b (by decide) hr2]; exact hP⟩
    · exact absurd c8 (by decide)
  | true =>
    refine z_aload_n (j := 0) o dX8_compares_4 rfl ?_
    refine z_callVi (As := []) (n := 0) (st := []) o dX8_compares_5 (c_X8_look hB M4 N r2.2.1 hP.1 hr60 hok2) zc_X8_142 (by omega) (i := 82) (by rw [hB]; exact zsh_lt rfl (by decide)) (zg_o rfl (by decide)) rfl rfl rfl (Nat.le_of_ble_eq_true rfl) (fun r9 g10 p11 => ?_)
    obtain ⟨rfl, rfl⟩ := p11
    refine zo_rw (y := sp_lk (M 83) r2.2.1) (by rw [e83]) ?_
    refine z_istore_n (i := 1) (lv2 := [(1, .int (sp_lk (M 83) r2.2.1)), (0, zref B 82)]) o dX8_compares_8 rfl (by decide) rfl ?_
    refine z_aload_n (j := 1) o dX8_compares_9 rfl ?_
    refine zo_get (i := 82) o hB dX8_compares_10 zf_X8_146 rfl (by decide) rfl ?_
    refine zo_rw (y := 0) (by rw [hP.2.2.1, hr2]; rfl) ?_
    refine z_ifne (tgt := 54) o dX8_compares_13 (by decide) (fun c12 => ?_) (fun c12 => ?_)
    · exact absurd c12 (by decide)
    · refine z_iload_n (j := 0) o dX8_compares_16 rfl ?_
      refine z_bipush (v := 60) o dX8_compares_17 (by decide) ?_
      refine z_icmpeq (tgt := 34) o dX8_compares_19 (by decide) (fun c13 => ?_) (fun c13 => ?_)
      · have hb : sp_lk (M 83) r2.2.1 = 60 := c13
        have hj : sp_jo (8 - 6) (sp_lk (M 83) r2.2.1) = true := by rw [hb]; decide
        have hlk : sp_lk (M4 83) r2.2.1 ≠ -1 := by rw [e83, hb]; decide
        have ha := hP.adv hr2 hlk
        have hlt2 := sp_lk_lt hlk
        refine z_aload_n (j := 1) o dX8_compares_34 rfl ?_
        refine z_dup o dX8_compares_35 rfl ?_
        refine zo_get (i := 82) o hB dX8_compares_36 zf_X8_132 rfl (by decide) rfl ?_
        refine zo_rw (y := nI r2.2.1) (hP.1) ?_
        refine z_iconst (v := 1) o dX8_compares_39 (by decide) ?_
        refine z_iadd o dX8_compares_40 ?_
        refine zo_rw (y := nI (r2.2.1 + 1)) (zn_add (rfl) (rfl)) ?_
        refine zo_put (i := 82) o hB dX8_compares_41 zp_X8_132 rfl (by decide) (by decide) (Nat.le_of_ble_eq_true rfl) ?_
        refine z_aload_n (j := 1) o dX8_compares_44 rfl ?_
        refine z_callVv (As := []) (n := 0) (st := []) o dX8_compares_45 ((ih F (by omega)).2.2.1 (zu M4 82 13 (nI (r2.2.1 + 1))) N op u (true, r2.2.1 + 1, r2.2.2) ho5 hu (by rw [zu_ne (by decide)]; exact hok2) (by rw [zu_at, upd_ne (by decide)]; exact e14) (by rw [zu_at, upd_ne (by decide)]; exact e16) rfl ha (by unfold zPm at hF ⊢; show 14 * (61 - (r2.2.1 + 1)) + 2 * (6 - 3) ≤ F; omega)) zc_X8_176 (by omega) (i := 82) (by rw [hB]; exact zsh_lt rfl (by decide)) (zg_o rfl (by decide)) rfl rfl rfl (Nat.le_of_ble_eq_true rfl) (fun g15 p16 => ?_)
        obtain ⟨M17, rfl, hXM17, hPM17⟩ := p16
        rw [show (zu M4 82 13 (nI (r2.2.1 + 1))) 83 = M4 83 from zu_ne (by decide)] at hPM17
        have e83q : M17 83 = M4 83 := by rw [hXM17.1 83 (by decide) (by decide) (by decide)]; exact zu_ne (by decide)
        obtain ⟨hst, hge2⟩ := opn_st hP hr2 hlk (by rw [e83]; exact hnt60) e83q (sp_lk (M 83) r2.2.1) hPM17
        rw [e83] at hst hge2
        refine z_aload_n (j := 1) o dX8_compares_48 rfl ?_
        refine z_iload_n (j := 0) o dX8_compares_49 rfl ?_
        refine z_iconst (v := 0) o dX8_compares_50 (by decide) ?_
        refine z_callVv (As := [.int (sp_lk (M 83) r2.2.1), .int 0]) (n := 2) (st := []) o dX8_compares_51 (c_X8_step hB M17 N (sp_lk (M 83) r2.2.1) 0 hPM17.2.2.2.1) zc_X8_150 (by omega) (i := 82) (by rw [hB]; exact zsh_lt rfl (by decide)) (zg_o rfl (by decide)) rfl rfl rfl (Nat.le_of_ble_eq_true rfl) (fun g19 p20 => ?_)
        cases p20
        exact kret _ _ _ dX8_compares_54 ⟨_, rfl, ((hX.z (k := 13) (by decide)).tr hXM17).st, by rw [hfin, sp_ps_8 hr2 hj]; exact hst⟩
      · refine z_iload_n (j := 0) o dX8_compares_22 rfl ?_
        refine z_bipush (v := 61) o dX8_compares_23 (by decide) ?_
        refine z_icmpeq (tgt := 34) o dX8_compares_25 (by decide) (fun c21 => ?_) (fun c21 => ?_)
        · have hb : sp_lk (M 83) r2.2.1 = 61 := c21
          have hj : sp_jo (8 - 6) (sp_lk (M 83) r2.2.1) = true := by rw [hb]; decide
          have hlk : sp_lk (M4 83) r2.2.1 ≠ -1 := by rw [e83, hb]; decide
          have ha := hP.adv hr2 hlk
          have hlt2 := sp_lk_lt hlk
          refine z_aload_n (j := 1) o dX8_compares_34 rfl ?_
          refine z_dup o dX8_compares_35 rfl ?_
          refine zo_get (i := 82) o hB dX8_compares_36 zf_X8_132 rfl (by decide) rfl ?_
          refine zo_rw (y := nI r2.2.1) (hP.1) ?_
          refine z_iconst (v := 1) o dX8_compares_39 (by decide) ?_
          refine z_iadd o dX8_compares_40 ?_
          refine zo_rw (y := nI (r2.2.1 + 1)) (zn_add (rfl) (rfl)) ?_
          refine zo_put (i := 82) o hB dX8_compares_41 zp_X8_132 rfl (by decide) (by decide) (Nat.le_of_ble_eq_true rfl) ?_
          refine z_aload_n (j := 1) o dX8_compares_44 rfl ?_
          refine z_callVv (As := []) (n := 0) (st := []) o dX8_compares_45 ((ih F (by omega)).2.2.1 (zu M4 82 13 (nI (r2.2.1 + 1))) N op u (true, r2.2.1 + 1, r2.2.2) ho5 hu (by rw [zu_ne (by decide)]; exact hok2) (by rw [zu_at, upd_ne (by decide)]; exact e14) (by rw [zu_at, upd_ne (by decide)]; exact e16) rfl ha (by unfold zPm at hF ⊢; show 14 * (61 - (r2.2.1 + 1)) + 2 * (6 - 3) ≤ F; omega)) zc_X8_176 (by omega) (i := 82) (by rw [hB]; exact zsh_lt rfl (by decide)) (zg_o rfl (by decide)) rfl rfl rfl (Nat.le_of_ble_eq_true rfl) (fun g23 p24 => ?_)
          obtain ⟨M25, rfl, hXM25, hPM25⟩ := p24
          rw [show (zu M4 82 13 (nI (r2.2.1 + 1))) 83 = M4 83 from zu_ne (by decide)] at hPM25
          have e83q : M25 83 = M4 83 := by rw [hXM25.1 83 (by decide) (by decide) (by decide)]; exact zu_ne (by decide)
          obtain ⟨hst, hge2⟩ := opn_st hP hr2 hlk (by rw [e83]; exact hnt60) e83q (sp_lk (M 83) r2.2.1) hPM25
          rw [e83] at hst hge2
          refine z_aload_n (j := 1) o dX8_compares_48 rfl ?_
          refine z_iload_n (j := 0) o dX8_compares_49 rfl ?_
          refine z_iconst (v := 0) o dX8_compares_50 (by decide) ?_
          refine z_callVv (As := [.int (sp_lk (M 83) r2.2.1), .int 0]) (n := 2) (st := []) o dX8_compares_51 (c_X8_step hB M25 N (sp_lk (M 83) r2.2.1) 0 hPM25.2.2.2.1) zc_X8_150 (by omega) (i := 82) (by rw [hB]; exact zsh_lt rfl (by decide)) (zg_o rfl (by decide)) rfl rfl rfl (Nat.le_of_ble_eq_true rfl) (fun g27 p28 => ?_)
          cases p28
          exact kret _ _ _ dX8_compares_54 ⟨_, rfl, ((hX.z (k := 13) (by decide)).tr hXM25).st, by rw [hfin, sp_ps_8 hr2 hj]; exact hst⟩
        · refine z_iload_n (j := 0) o dX8_compares_28 rfl ?_
          refine z_bipush (v := 62) o dX8_compares_29 (by decide) ?_
          refine z_icmpne (tgt := 54) o dX8_compares_31 (by decide) (fun c29 => ?_) (fun c29 => ?_)
          · have hj : sp_jo (8 - 6) (sp_lk (M 83) r2.2.1) = false := by unfold sp_jo; simp [c13, c21, c29]
            exact kret _ _ _ dX8_compares_54 ⟨M4, rfl, hX, by rw [hfin, sp_ps_n (by decide) hj]; exact hP⟩
          · have hb : sp_lk (M 83) r2.2.1 = 62 := c29
            have hj : sp_jo (8 - 6) (sp_lk (M 83) r2.2.1) = true := by rw [hb]; decide
            have hlk : sp_lk (M4 83) r2.2.1 ≠ -1 := by rw [e83, hb]; decide
            have ha := hP.adv hr2 hlk
            have hlt2 := sp_lk_lt hlk
            refine z_aload_n (j := 1) o dX8_compares_34 rfl ?_
            refine z_dup o dX8_compares_35 rfl ?_
            refine zo_get (i := 82) o hB dX8_compares_36 zf_X8_132 rfl (by decide) rfl ?_
            refine zo_rw (y := nI r2.2.1) (hP.1) ?_
            refine z_iconst (v := 1) o dX8_compares_39 (by decide) ?_
            refine z_iadd o dX8_compares_40 ?_
            refine zo_rw (y := nI (r2.2.1 + 1)) (zn_add (rfl) (rfl)) ?_
            refine zo_put (i := 82) o hB dX8_compares_41 zp_X8_132 rfl (by decide) (by decide) (Nat.le_of_ble_eq_true rfl) ?_
            refine z_aload_n (j := 1) o dX8_compares_44 rfl ?_
            refine z_callVv (As := []) (n := 0) (st := []) o dX8_compares_45 ((ih F (by omega)).2.2.1 (zu M4 82 13 (nI (r2.2.1 + 1))) N op u (true, r2.2.1 + 1, r2.2.2) ho5 hu (by rw [zu_ne (by decide)]; exact hok2) (by rw [zu_at, upd_ne (by decide)]; exact e14) (by rw [zu_at, upd_ne (by decide)]; exact e16) rfl ha (by unfold zPm at hF ⊢; show 14 * (61 - (r2.2.1 + 1)) + 2 * (6 - 3) ≤ F; omega)) zc_X8_176 (by omega) (i := 82) (by rw [hB]; exact zsh_lt rfl (by decide)) (zg_o rfl (by decide)) rfl rfl rfl (Nat.le_of_ble_eq_true rfl) (fun g31 p32 => ?_)
            obtain ⟨M33, rfl, hXM33, hPM33⟩ := p32
            rw [show (zu M4 82 13 (nI (r2.2.1 + 1))) 83 = M4 83 from zu_ne (by decide)] at hPM33
            have e83q : M33 83 = M4 83 := by rw [hXM33.1 83 (by decide) (by decide) (by decide)]; exact zu_ne (by decide)
            obtain ⟨hst, hge2⟩ := opn_st hP hr2 hlk (by rw [e83]; exact hnt60) e83q (sp_lk (M 83) r2.2.1) hPM33
            rw [e83] at hst hge2
            refine z_aload_n (j := 1) o dX8_compares_48 rfl ?_
            refine z_iload_n (j := 0) o dX8_compares_49 rfl ?_
            refine z_iconst (v := 0) o dX8_compares_50 (by decide) ?_
            refine z_callVv (As := [.int (sp_lk (M 83) r2.2.1), .int 0]) (n := 2) (st := []) o dX8_compares_51 (c_X8_step hB M33 N (sp_lk (M 83) r2.2.1) 0 hPM33.2.2.2.1) zc_X8_150 (by omega) (i := 82) (by rw [hB]; exact zsh_lt rfl (by decide)) (zg_o rfl (by decide)) rfl rfl rfl (Nat.le_of_ble_eq_true rfl) (fun g35 p36 => ?_)
            cases p36
            exact kret _ _ _ dX8_compares_54 ⟨_, rfl, ((hX.z (k := 13) (by decide)).tr hXM33).st, by rw [hfin, sp_ps_8 hr2 hj]; exact hst⟩

theorem zPall {B : zB} (hB : znn B = 95) (F : Nat) : zPA B F := by
  induction F using Nat.strongRecOn with
  | ind F ih => exact ⟨c_X8_one hB F ih, c_X8_times hB F ih, c_X8_sum hB F ih, c_X8_compares hB F ih, c_X8_all hB F ih, c_X8_any hB F ih⟩
