/-! the reference: draws, what salted posts would do, sheets told -/
set_option maxHeartbeats 4000000 in
set_option maxRecDepth 100000 in
theorem c_X8_draw {B : zB} (hB : znn B = 95) (M : zM) (N : zN) : zCi B (zg B M N) yX8_draw cX8_draw 1 (some .int) 0 [zref B 82] (fun r g' => g' = zg B (va_up M 83 (sp_draw (M 83))) N ∧ r = sp_dr (M 83)) := by
  refine zCi_of (by decide +kernel) (Nat.le_of_ble_eq_true rfl) .int rfl (fun _ _ _ => rfl) ?_
  intro X o kret
  show zW X B (zg B M N) 0 [(0, zref B 82)] []
  refine z_aload_n (j := 0) o dX8_draw_0 rfl ?_
  refine zo_get (i := 82) o hB dX8_draw_1 zf_X8_9 rfl (by decide) rfl ?_
  refine z_iconst (v := 1) o dX8_draw_4 (by decide) ?_
  refine z_aload_n (j := 0) o dX8_draw_5 rfl ?_
  refine zo_get (i := 82) o hB dX8_draw_6 zf_X8_9 rfl (by decide) rfl ?_
  refine z_iconst (v := 1) o dX8_draw_9 (by decide) ?_
  refine zo_iald (i := 83) (j := 1) o hB dX8_draw_10 rfl (show 1 < 524 by omega) (by decide) ?_
  refine z_ldc (v := 1103515245) o dX8_draw_11 zk_X8_202 ?_
  refine z_imul o dX8_draw_13 ?_
  refine z_sipush (v := 12345) o dX8_draw_14 (by decide) ?_
  refine z_iadd o dX8_draw_17 ?_
  refine zo_iast (i := 83) (j := 1) o hB dX8_draw_18 rfl (show 1 < 524 by omega) (by decide) ?_
  refine zo_nm (fun M1 hM1 => ?_)
  refine z_aload_n (j := 0) o dX8_draw_19 rfl ?_
  refine zo_get (i := 82) o hB dX8_draw_20 zf_X8_9 rfl (by decide) rfl ?_
  refine z_iconst (v := 1) o dX8_draw_23 (by decide) ?_
  refine zo_iald (i := 83) (j := 1) o hB dX8_draw_24 rfl (show 1 < 524 by omega) (by decide) ?_
  refine z_bipush (v := 8) o dX8_draw_25 (by decide) ?_
  refine z_iushr o dX8_draw_27 ?_
  exact kret _ _ _ _ dX8_draw_28 ⟨by subst_vars; rfl, by subst_vars; rw [zu_at, upd_self]; rfl⟩

set_option maxHeartbeats 4000000 in
set_option maxRecDepth 100000 in
theorem c_X8_drawn {B : zB} (hB : znn B = 95) (M : zM) (N : zN) (hok : zOkAll (M 83)) : zCv B (zg B M N) yX8_drawn cX8_drawn 4 none 5 [zref B 82] (fun g' => ∃ M' : zM, g' = zg B M' N ∧ M' 83 = sp_drawn (M 83) ∧ zSm M M') := by
  refine zCv_of (by decide +kernel) (Nat.le_of_ble_eq_true rfl) ?_
  intro X o kret
  show zW X B (zg B M N) 0 [(0, zref B 82)] []
  obtain ⟨hnc, hnc6⟩ := ok_nc2 hok.1
  refine z_bipush (v := 70) o dX8_drawn_0 (by decide) ?_
  refine z_aload_n (j := 0) o dX8_drawn_2 rfl ?_
  refine z_callVi (As := []) (n := 0) (st := [.int 70]) o dX8_drawn_3 (c_X8_draw hB M N) zc_X8_203 (by decide) (i := 82) (by rw [hB]; exact zsh_lt rfl (by decide)) (zg_o rfl (by decide)) rfl rfl rfl (Nat.le_of_ble_eq_true rfl) (fun r1 g2 p3 => ?_)
  obtain ⟨rfl, rfl⟩ := p3
  obtain ⟨hdr1, hlr1⟩ := sp_dr_nat (M 83)
  refine zo_rw (y := nI (sp_drn (M 83))) hdr1 ?_
  refine zo_nm (fun M4 hM4 => ?_)
  have hRM4 : M4 83 = sp_draw (M 83) := by rw [hM4, va_up_self]
  have hSM4 : zSm M M4 := by rw [hM4]; exact zSm.row zSm.rf
  refine z_bipush (v := 64) o dX8_drawn_6 (by decide) ?_
  refine z_irem o dX8_drawn_8 (by decide) ?_
  refine zo_rw (y := nI (sp_drn (M 83) % 64)) (zrem_nat (d := 64) rfl (by omega) (by omega) (by omega)) ?_
  have hm64 : sp_drn (M 83) % 64 < 64 := Nat.mod_lt _ (by decide)
  refine z_iadd o dX8_drawn_9 ?_
  refine zo_rw (y := nI (70 + (sp_drn (M 83) % 64))) (zn_add (rfl) (rfl)) ?_
  refine z_istore_n (i := 1) (lv2 := [(1, .int (nI (70 + (sp_drn (M 83) % 64)))), (0, zref B 82)]) o dX8_drawn_10 rfl (by decide) rfl ?_
  refine z_aload_n (j := 1) o dX8_drawn_11 rfl ?_
  refine zo_get (i := 82) o hB dX8_drawn_12 zf_X8_9 rfl (by decide) rfl ?_
  refine z_iload_n (j := 0) o dX8_drawn_15 rfl ?_
  refine z_iconst (v := 1) o dX8_drawn_16 (by decide) ?_
  refine z_aload_n (j := 1) o dX8_drawn_17 rfl ?_
  refine zo_get (i := 82) o hB dX8_drawn_18 zf_X8_9 rfl (by decide) rfl ?_
  refine z_iload_n (j := 0) o dX8_drawn_21 rfl ?_
  refine zo_iald (i := 83) (j := 70 + (sp_drn (M 83) % 64)) o hB dX8_drawn_22 rfl (show 70 + (sp_drn (M 83) % 64) < 524 by omega) (by decide) ?_
  refine z_isub o dX8_drawn_23 ?_
  refine zo_iast (i := 83) (j := 70 + (sp_drn (M 83) % 64)) o hB dX8_drawn_24 rfl (show 70 + (sp_drn (M 83) % 64) < 524 by omega) (by decide) ?_
  refine zo_nm (fun M5 hM5 => ?_)
  have h1R : M5 83 = sp_stray1 (M 83) := by
    rw [hM5, zu_at, hRM4]; rfl
  have h1S : zSm M M5 := by rw [hM5]; exact zSm.zu hSM4
  have ok1 : zOkAll (M5 83) := by rw [h1R]; exact okA_stray1 hok
  have enc : M5 83 3 = nI (sp_nc (M 83)) := by rw [h1R, sp_stray1_ne (by decide) (by omega)]; exact hnc
  refine z_aload_n (j := 1) o dX8_drawn_25 rfl ?_
  refine zo_get (i := 82) o hB dX8_drawn_26 zf_X8_9 rfl (by decide) rfl ?_
  refine z_iconst (v := 3) o dX8_drawn_29 (by decide) ?_
  refine zo_iald (i := 83) (j := 3) o hB dX8_drawn_30 rfl (show 3 < 524 by omega) (by decide) ?_
  refine zo_rw (y := nI (sp_nc (M 83))) (enc) ?_
  refine z_ifle (tgt := 97) o dX8_drawn_31 (by decide) (fun c6 => ?_) (fun c6 => ?_)
  · have hz : ¬ 0 < sp_nc (M 83) := fun q => c6 (nI_lt (a := 0) q (by omega))
    have hRs : M5 83 = sp_stray (M 83) := by rw [h1R]; unfold sp_stray; rw [if_neg hz]
    refine z_aload_n (j := 1) o dX8_drawn_97 rfl ?_
    refine z_callVv (As := []) (n := 0) (st := []) o dX8_drawn_98 (c_X8_goes hB M5 N (by rw [hRs]; exact okA_stray hok)) zc_X8_199 (by decide) (i := 82) (by rw [hB]; exact zsh_lt rfl (by decide)) (zg_o rfl (by decide)) rfl rfl rfl (Nat.le_of_ble_eq_true rfl) (fun g8 p9 => ?_)
    obtain ⟨M10, rfl, hRM10, hSM10⟩ := p9
    exact kret _ _ _ dX8_drawn_101 ⟨_, rfl, by rw [hRM10, hRs]; rfl, h1S.tr hSM10⟩
  · have hz : 0 < sp_nc (M 83) := Classical.byContradiction fun q => by
      have hz9 : sp_nc (M 83) = 0 := by omega
      rw [hz9] at c6
      exact absurd c6 (by decide)
    have hcm : sp_drn (M5 83) % sp_nc (M 83) < sp_nc (M 83) := Nat.mod_lt _ hz
    have ecw : sp_drn (M5 83) % sp_nc (M 83) = sp_cw (M5 83) := by unfold sp_cw; rw [h1R, sp_stray1_nc]
    refine z_aload_n (j := 1) o dX8_drawn_34 rfl ?_
    refine z_callVi (As := []) (n := 0) (st := []) o dX8_drawn_35 (c_X8_draw hB M5 N) zc_X8_203 (by decide) (i := 82) (by rw [hB]; exact zsh_lt rfl (by decide)) (zg_o rfl (by decide)) rfl rfl rfl (Nat.le_of_ble_eq_true rfl) (fun r11 g12 p13 => ?_)
    obtain ⟨rfl, rfl⟩ := p13
    obtain ⟨hdr11, hlr11⟩ := sp_dr_nat (M5 83)
    refine zo_rw (y := nI (sp_drn (M5 83))) hdr11 ?_
    refine zo_nm (fun M14 hM14 => ?_)
    have hRM14 : M14 83 = sp_draw (M5 83) := by rw [hM14, va_up_self]
    have hSM14 : zSm M5 M14 := by rw [hM14]; exact zSm.row zSm.rf
    refine z_aload_n (j := 1) o dX8_drawn_38 rfl ?_
    refine zo_get (i := 82) o hB dX8_drawn_39 zf_X8_9 rfl (by decide) rfl ?_
    refine z_iconst (v := 3) o dX8_drawn_42 (by decide) ?_
    refine zo_iald (i := 83) (j := 3) o hB dX8_drawn_43 rfl (show 3 < 524 by omega) (by decide) ?_
    refine zo_rw (y := nI (sp_nc (M 83))) (by rw [hRM14]; exact (upd_ne (by decide)).trans enc) ?_
    refine z_irem o dX8_drawn_44 (nI_ne0 (by omega) (by omega)) ?_
    refine zo_rw (y := nI (sp_drn (M5 83) % sp_nc (M 83))) (zrem_nat (d := sp_nc (M 83)) rfl (by omega) (by omega) (by omega)) ?_
    refine zo_rw (y := nI (sp_cw (M5 83))) (by rw [ecw]) ?_
    have hcw6 : sp_cw (M5 83) < 6 := by rw [← ecw]; omega
    refine z_istore_n (i := 2) (lv2 := [(2, .int (nI (sp_cw (M5 83)))), (1, .int (nI (70 + (sp_drn (M 83) % 64)))), (0, zref B 82)]) o dX8_drawn_45 rfl (by decide) rfl ?_
    refine z_aload_n (j := 2) o dX8_drawn_46 rfl ?_
    refine zo_get (i := 82) o hB dX8_drawn_47 zf_X8_9 rfl (by decide) rfl ?_
    refine z_bipush (v := 58) o dX8_drawn_50 (by decide) ?_
    refine z_iconst (v := 2) o dX8_drawn_52 (by decide) ?_
    refine z_iload_n (j := 0) o dX8_drawn_53 rfl ?_
    refine z_imul o dX8_drawn_54 ?_
    refine zo_rw (y := nI (2 * (sp_cw (M5 83)))) (zn_mul (rfl) (rfl)) ?_
    refine z_iadd o dX8_drawn_55 ?_
    refine zo_rw (y := nI (58 + 2 * (sp_cw (M5 83)))) (zn_add (rfl) (rfl)) ?_
    refine zo_iald (i := 83) (j := 58 + 2 * (sp_cw (M5 83))) o hB dX8_drawn_56 rfl (show 58 + 2 * (sp_cw (M5 83)) < 524 by omega) (by decide) ?_
    refine z_aload_n (j := 2) o dX8_drawn_57 rfl ?_
    refine z_callVi (As := []) (n := 0) (st := [.int (M14 83 (58 + 2 * (sp_cw (M5 83))))]) o dX8_drawn_58 (c_X8_draw hB M14 N) zc_X8_203 (by decide) (i := 82) (by rw [hB]; exact zsh_lt rfl (by decide)) (zg_o rfl (by decide)) rfl rfl rfl (Nat.le_of_ble_eq_true rfl) (fun r15 g16 p17 => ?_)
    obtain ⟨rfl, rfl⟩ := p17
    obtain ⟨hdr15, hlr15⟩ := sp_dr_nat (M14 83)
    refine zo_rw (y := nI (sp_drn (M14 83))) hdr15 ?_
    refine zo_nm (fun M18 hM18 => ?_)
    have hRM18 : M18 83 = sp_draw (M14 83) := by rw [hM18, va_up_self]
    have hSM18 : zSm M14 M18 := by rw [hM18]; exact zSm.row zSm.rf
    refine z_iconst (v := 4) o dX8_drawn_61 (by decide) ?_
    refine z_irem o dX8_drawn_62 (by decide) ?_
    refine z_callSi (As := [.int (M14 83 (58 + 2 * (sp_cw (M5 83)))), .int ((nI (sp_drn (M14 83))) - (nI (sp_drn (M14 83))) / 4 * 4)]) (n := 2) (st := []) o dX8_drawn_63 (c_X8_next hB M18 N (M14 83 (58 + 2 * (sp_cw (M5 83)))) ((nI (sp_drn (M14 83))) - (nI (sp_drn (M14 83))) / 4 * 4)) zc_X8_62 (by decide) rfl rfl (Nat.le_of_ble_eq_true rfl) (fun r19 g20 p21 => ?_)
    obtain ⟨rfl, rfl⟩ := p21
    refine z_istore_n (i := 3) (lv2 := [(3, .int (sp_next (M14 83 (58 + 2 * (sp_cw (M5 83)))) ((nI (sp_drn (M14 83))) - (nI (sp_drn (M14 83))) / 4 * 4))), (2, .int (nI (sp_cw (M5 83)))), (1, .int (nI (70 + (sp_drn (M 83) % 64)))), (0, zref B 82)]) o dX8_drawn_66 rfl (by decide) rfl ?_
    refine z_aload_n (j := 3) o dX8_drawn_67 rfl ?_
    refine zo_get (i := 82) o hB dX8_drawn_68 zf_X8_9 rfl (by decide) rfl ?_
    refine z_bipush (v := 58) o dX8_drawn_71 (by decide) ?_
    refine z_iconst (v := 2) o dX8_drawn_73 (by decide) ?_
    refine z_iload_n (j := 1) o dX8_drawn_74 rfl ?_
    refine z_imul o dX8_drawn_75 ?_
    refine zo_rw (y := nI (2 * (sp_cw (M5 83)))) (zn_mul (rfl) (rfl)) ?_
    refine z_iadd o dX8_drawn_76 ?_
    refine zo_rw (y := nI (58 + 2 * (sp_cw (M5 83)))) (zn_add (rfl) (rfl)) ?_
    refine z_iload_n (j := 0) o dX8_drawn_77 rfl ?_
    have J23 : zW X B (zg B M18 N) 96 [(3, .int (sp_next (M14 83 (58 + 2 * (sp_cw (M5 83)))) ((nI (sp_drn (M14 83))) - (nI (sp_drn (M14 83))) / 4 * 4))), (2, .int (nI (sp_cw (M5 83)))), (1, .int (nI (70 + (sp_drn (M 83) % 64)))), (0, zref B 82)] [.int (if (sp_next (M14 83 (58 + 2 * (sp_cw (M5 83)))) ((nI (sp_drn (M14 83))) - (nI (sp_drn (M14 83))) / 4 * 4)) < 0 then M18 83 (58 + 2 * (sp_cw (M5 83))) else sp_next (M14 83 (58 + 2 * (sp_cw (M5 83)))) ((nI (sp_drn (M14 83))) - (nI (sp_drn (M14 83))) / 4 * 4)), .int (nI (58 + 2 * (sp_cw (M5 83)))), zref B 83] := by
      refine zo_iast (i := 83) (j := 58 + 2 * (sp_cw (M5 83))) o hB dX8_drawn_96 rfl (show 58 + 2 * (sp_cw (M5 83)) < 524 by omega) (by decide) ?_
      refine zo_nm (fun M24 hM24 => ?_)
      have e1 : M14 83 (58 + 2 * (sp_cw (M5 83))) = M5 83 (58 + 2 * (sp_cw (M5 83))) := by rw [hRM14]; exact upd_ne (by omega)
      have hRs : M24 83 = sp_stray (M 83) := by
        unfold sp_stray; rw [if_pos hz, ← h1R]; unfold sp_stray2 zirem; rw [hM24, zu_at, e1, ← hdr15, hRM18, hRM14]
      have h1S : zSm M M24 := by rw [hM24]; exact zSm.zu ((h1S.tr hSM14).tr hSM18)
      refine z_aload_n (j := 3) o dX8_drawn_97 rfl ?_
      refine z_callVv (As := []) (n := 0) (st := []) o dX8_drawn_98 (c_X8_goes hB M24 N (by rw [hRs]; exact okA_stray hok)) zc_X8_199 (by decide) (i := 82) (by rw [hB]; exact zsh_lt rfl (by decide)) (zg_o rfl (by decide)) rfl rfl rfl (Nat.le_of_ble_eq_true rfl) (fun g26 p27 => ?_)
      obtain ⟨M28, rfl, hRM28, hSM28⟩ := p27
      exact kret _ _ _ dX8_drawn_101 ⟨_, rfl, by rw [hRM28, hRs]; rfl, h1S.tr hSM28⟩
    refine z_ifge (tgt := 95) o dX8_drawn_78 (by decide) (fun c22 => ?_) (fun c22 => ?_)
    · refine z_iload_n (j := 0) o dX8_drawn_95 rfl ?_
      rw [if_neg c22] at J23
      exact J23
    · refine z_aload_n (j := 3) o dX8_drawn_81 rfl ?_
      refine zo_get (i := 82) o hB dX8_drawn_82 zf_X8_9 rfl (by decide) rfl ?_
      refine z_bipush (v := 58) o dX8_drawn_85 (by decide) ?_
      refine z_iconst (v := 2) o dX8_drawn_87 (by decide) ?_
      refine z_iload_n (j := 1) o dX8_drawn_88 rfl ?_
      refine z_imul o dX8_drawn_89 ?_
      refine zo_rw (y := nI (2 * (sp_cw (M5 83)))) (zn_mul (rfl) (rfl)) ?_
      refine z_iadd o dX8_drawn_90 ?_
      refine zo_rw (y := nI (58 + 2 * (sp_cw (M5 83)))) (zn_add (rfl) (rfl)) ?_
      refine zo_iald (i := 83) (j := 58 + 2 * (sp_cw (M5 83))) o hB dX8_drawn_91 rfl (show 58 + 2 * (sp_cw (M5 83)) < 524 by omega) (by decide) ?_
      refine z_goto (tgt := 96) o dX8_drawn_92 (by decide) ?_
      rw [if_pos c22] at J23
      exact J23

set_option maxHeartbeats 4000000 in
set_option maxRecDepth 100000 in
theorem c_X8_isHad {B : zB} (hB : znn B = 95) (M : zM) (N : zN) (f c n : Nat) (p q : Int32) (hf : f < 4) (hc : c < 64) (hn : n < 100) (hp : zCell p) (hq : zCell q) (hok : zOkR (M 83)) (hbe : M 85 = M 83) : zCi B (zg B M N) yX8_isHad cX8_isHad 7 (some .boolean) 3 [zref B 82, .int (nI f), .int (nI c), .int (nI n), .int p, .int q] (fun r g' => g' = zg B M N ∧ r = if sp_hadB (M 83) f c n p q then 1 else 0) := by
  refine zCi_of (by decide +kernel) (Nat.le_of_ble_eq_true rfl) .boolean rfl (fun r _ h => zin_z r (by rw [h.2]; split <;> simp)) ?_
  intro X o kret
  show zW X B (zg B M N) 0 [(0, zref B 82), (1, .int (nI f)), (2, .int (nI c)), (3, .int (nI n)), (4, .int p), (5, .int q)] []
  have hok2 : zOkR (sp_salt (M 83) p q) := ok_salt1 (ok_salt1 hok hp) hq
  have H2 : ∀ M1 : zM, M1 = va_up M 83 (sp_salt1 (M 83) p) → zW X B (zg B M1 N) 16 [(0, zref B 82), (1, .int (nI f)), (2, .int (nI c)), (3, .int (nI n)), (4, .int p), (5, .int q)] [] := by
    intro M1 hM1
    have H3 : ∀ M2 : zM, M2 = va_up M 83 (sp_salt (M 83) p q) → zW X B (zg B M2 N) 32 [(0, zref B 82), (1, .int (nI f)), (2, .int (nI c)), (3, .int (nI n)), (4, .int p), (5, .int q)] [] := by
      intro M2 hM2
      refine z_iconst (v := 0) o dX8_isHad_32 (by decide) ?_
      refine z_istore (i := 6) (lv2 := [(6, .int 0), (0, zref B 82), (1, .int (nI f)), (2, .int (nI c)), (3, .int (nI n)), (4, .int p), (5, .int q)]) o dX8_isHad_33 (by decide) rfl ?_
      have LOOP : ∀ nr kr : Nat, kr + nr = n → ∀ M3 : zM, M3 = va_up M 83 (sp_movesN (sp_salt (M 83) p q) kr) → zW X B (zg B M3 N) 35 [(6, .int (nI kr)), (0, zref B 82), (1, .int (nI f)), (2, .int (nI c)), (3, .int (nI n)), (4, .int p), (5, .int q)] [] := by
        intro nr
        induction nr with
        | zero =>
          intro kr hkr M3 hM3
          have hz : kr = n := by omega
          have hr3 : M3 83 = sp_movesN (sp_salt (M 83) p q) kr := by rw [hM3, va_up_self]
          have hok3 : zOkR (M3 83) := by rw [hr3]; exact ok_movesN hok2 _
          refine z_iload (j := 0) o dX8_isHad_35 rfl ?_
          refine z_iload_n (j := 4) o dX8_isHad_37 rfl ?_
          refine z_icmpge (tgt := 51) o dX8_isHad_38 (by decide) (fun c1 => ?_) (fun c1 => ?_)
          · refine z_aload_n (j := 1) o dX8_isHad_51 rfl ?_
            refine z_iload_n (j := 2) o dX8_isHad_52 rfl ?_
            refine z_callVl (As := [.int (nI f)]) (n := 1) (st := []) o dX8_isHad_53 (c_X8_insideOf hB M3 N f (by omega) hok3) zc_X8_85 (by decide) (i := 82) (by rw [hB]; exact zsh_lt rfl (by decide)) (zg_o rfl (by decide)) rfl rfl rfl (Nat.le_of_ble_eq_true rfl) (fun r2 g3 p4 => ?_)
            obtain ⟨rfl, rfl⟩ := p4
            refine z_iload_n (j := 3) o dX8_isHad_56 rfl ?_
            refine z_lushr o dX8_isHad_57 ?_
            refine z_lconst (v := 1) o dX8_isHad_58 (by decide) ?_
            refine z_land o dX8_isHad_59 ?_
            refine z_lconst (v := 1) o dX8_isHad_60 (by decide) ?_
            refine z_lcmp o dX8_isHad_61 ?_
            refine z_ifne (tgt := 69) o dX8_isHad_62 (by decide) (fun c5 => ?_) (fun c5 => ?_)
            · have hh : sp_hadB (M 83) f c n p q = false := by
                unfold sp_hadB; rw [← hz, ← hr3]; exact sp_hasB_f (fun w => c5 (lg0.mpr w))
              refine z_iconst (v := 0) o dX8_isHad_69 (by decide) ?_
              refine z_istore (i := 6) (lv2 := [(6, .int 0), (0, zref B 82), (1, .int (nI f)), (2, .int (nI c)), (3, .int (nI n)), (4, .int p), (5, .int q)]) o dX8_isHad_70 (by decide) rfl ?_
              refine z_aload_n (j := 1) o dX8_isHad_72 rfl ?_
              refine z_callVv (As := []) (n := 0) (st := []) o dX8_isHad_73 (c_X8_putsBack hB M3 N) zc_X8_215 (by decide) (i := 82) (by rw [hB]; exact zsh_lt rfl (by decide)) (zg_o rfl (by decide)) rfl rfl rfl (Nat.le_of_ble_eq_true rfl) (fun g7 p8 => ?_)
              cases p8
              refine zo_nm (fun M9 hM9 => ?_)
              have hb : M9 = M := by rw [hM9, hM3, va_up_twice]; show va_up M 83 (M 85) = M; rw [hbe, va_up_id]
              refine z_iload (j := 0) o dX8_isHad_76 rfl ?_
              exact kret _ _ _ _ dX8_isHad_78 ⟨by rw [hb], by rw [hh]; rfl⟩
            · have hh : sp_hadB (M 83) f c n p q = true := by
                unfold sp_hadB; rw [← hz, ← hr3]; exact sp_hasB_t (lg0.mp c5)
              refine z_iconst (v := 1) o dX8_isHad_65 (by decide) ?_
              refine z_goto (tgt := 70) o dX8_isHad_66 (by decide) ?_
              refine z_istore (i := 6) (lv2 := [(6, .int 1), (0, zref B 82), (1, .int (nI f)), (2, .int (nI c)), (3, .int (nI n)), (4, .int p), (5, .int q)]) o dX8_isHad_70 (by decide) rfl ?_
              refine z_aload_n (j := 1) o dX8_isHad_72 rfl ?_
              refine z_callVv (As := []) (n := 0) (st := []) o dX8_isHad_73 (c_X8_putsBack hB M3 N) zc_X8_215 (by decide) (i := 82) (by rw [hB]; exact zsh_lt rfl (by decide)) (zg_o rfl (by decide)) rfl rfl rfl (Nat.le_of_ble_eq_true rfl) (fun g11 p12 => ?_)
              cases p12
              refine zo_nm (fun M13 hM13 => ?_)
              have hb : M13 = M := by rw [hM13, hM3, va_up_twice]; show va_up M 83 (M 85) = M; rw [hbe, va_up_id]
              refine z_iload (j := 0) o dX8_isHad_76 rfl ?_
              exact kret _ _ _ _ dX8_isHad_78 ⟨by rw [hb], by rw [hh]; rfl⟩
          · exact absurd c1 (nI_nlt (a := kr) (b := n) (by omega) (by omega))
        | succ nr ih =>
          intro kr hkr M3 hM3
          have hlt : kr < n := by omega
          have hr3 : M3 83 = sp_movesN (sp_salt (M 83) p q) kr := by rw [hM3, va_up_self]
          have hok3 : zOkR (M3 83) := by rw [hr3]; exact ok_movesN hok2 _
          refine z_iload (j := 0) o dX8_isHad_35 rfl ?_
          refine z_iload_n (j := 4) o dX8_isHad_37 rfl ?_
          refine z_icmpge (tgt := 51) o dX8_isHad_38 (by decide) (fun c14 => ?_) (fun c14 => ?_)
          · exact absurd (nI_lt (a := kr) (b := n) (by omega) (by omega)) c14
          · refine z_aload_n (j := 1) o dX8_isHad_41 rfl ?_
            refine z_callVv (As := []) (n := 0) (st := []) o dX8_isHad_42 (c_X8_moves hB M3 N hok3) zc_X8_195 (by decide) (i := 82) (by rw [hB]; exact zsh_lt rfl (by decide)) (zg_o rfl (by decide)) rfl rfl rfl (Nat.le_of_ble_eq_true rfl) (fun g16 p17 => ?_)
            cases p17
            refine zo_nm (fun M18 hM18 => ?_)
            refine z_iinc (j := 0) (v := nI (kr + 1)) (lv2 := [(6, .int (nI (kr + 1))), (0, zref B 82), (1, .int (nI f)), (2, .int (nI c)), (3, .int (nI n)), (4, .int p), (5, .int q)]) o dX8_isHad_45 rfl (zn_ofInt _) (by decide) rfl ?_
            refine z_goto (tgt := 35) o dX8_isHad_48 (by decide) ?_
            refine zo_lv [0, 1, 2, 3, 4, 5, 6] rfl ?_
            exact ih (kr + 1) (by omega) M18 (by rw [hM18, hr3, hM3, va_up_twice]; rfl)
      exact LOOP n 0 (by omega) M2 hM2
    refine z_iload (j := 5) o dX8_isHad_16 rfl ?_
    refine z_iflt (tgt := 32) o dX8_isHad_18 (by decide) (fun c19 => ?_) (fun c19 => ?_)
    · exact H3 M1 (by rw [hM1]; unfold sp_salt; rw [show sp_salt1 (sp_salt1 (M 83) p) q = sp_salt1 (M 83) p by (rw [sp_salt1, if_pos c19])])
    · obtain ⟨qk, hqk, eqk⟩ : ∃ kk, kk < 64 ∧ q = nI kk := by
        rcases hq with w9 | w9
        · exact absurd w9 c19
        · exact w9
      refine z_aload_n (j := 0) o dX8_isHad_21 rfl ?_
      refine zo_get (i := 82) o hB dX8_isHad_22 zf_X8_9 rfl (by decide) rfl ?_
      refine z_bipush (v := 70) o dX8_isHad_25 (by decide) ?_
      refine z_iload (j := 5) o dX8_isHad_27 rfl ?_
      refine zo_rw (y := nI qk) (eqk) ?_
      refine z_iadd o dX8_isHad_29 ?_
      refine zo_rw (y := nI (70 + qk)) (zn_add (rfl) (rfl)) ?_
      refine z_iconst (v := 1) o dX8_isHad_30 (by decide) ?_
      refine zo_iast (i := 83) (j := 70 + qk) o hB dX8_isHad_31 rfl (show 70 + qk < 524 by omega) (by decide) ?_
      refine zo_nm (fun M20 hM20 => ?_)
      exact H3 M20 (by rw [hM20, hM1, zu_va]; unfold sp_salt; rw [show sp_salt1 (sp_salt1 (M 83) p) q = upd (sp_salt1 (M 83) p) (70 + qk) 1 by (rw [sp_salt1, if_neg c19, eqk, zn_nI (by omega)])])
  refine z_iload (j := 4) o dX8_isHad_0 rfl ?_
  refine z_iflt (tgt := 16) o dX8_isHad_2 (by decide) (fun c21 => ?_) (fun c21 => ?_)
  · exact H2 M (by rw [sp_salt1, if_pos c21, va_up_id])
  · obtain ⟨pk, hpk, epk⟩ : ∃ kk, kk < 64 ∧ p = nI kk := by
      rcases hp with w9 | w9
      · exact absurd w9 c21
      · exact w9
    refine z_aload_n (j := 0) o dX8_isHad_5 rfl ?_
    refine zo_get (i := 82) o hB dX8_isHad_6 zf_X8_9 rfl (by decide) rfl ?_
    refine z_bipush (v := 70) o dX8_isHad_9 (by decide) ?_
    refine z_iload (j := 4) o dX8_isHad_11 rfl ?_
    refine zo_rw (y := nI pk) (epk) ?_
    refine z_iadd o dX8_isHad_13 ?_
    refine zo_rw (y := nI (70 + pk)) (zn_add (rfl) (rfl)) ?_
    refine z_iconst (v := 1) o dX8_isHad_14 (by decide) ?_
    refine zo_iast (i := 83) (j := 70 + pk) o hB dX8_isHad_15 rfl (show 70 + pk < 524 by omega) (by decide) ?_
    refine zo_nm (fun M22 hM22 => ?_)
    exact H2 M22 (by rw [hM22, sp_salt1, if_neg c21, epk, zn_nI (by omega)]; rfl)

