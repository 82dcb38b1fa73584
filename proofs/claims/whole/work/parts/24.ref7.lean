/-! the reference: a dawn, draws, thoughts -/
set_option maxHeartbeats 4000000 in
set_option maxRecDepth 100000 in
theorem c_X8_goes {B : zB} (hB : znn B = 95) (M : zM) (N : zN) (hok : zOkAll (M 83)) : zCv B (zg B M N) yX8_goes cX8_goes 4 none 4 [zref B 82] (fun g' => ∃ M' : zM, g' = zg B M' N ∧ M' 83 = sp_goes (M 83) ∧ zSm M M') := by
  refine zCv_of (by decide +kernel) (Nat.le_of_ble_eq_true rfl) ?_
  intro X o kret
  show zW X B (zg B M N) 0 [(0, zref B 82)] []
  obtain ⟨hnf, hnf4⟩ := ok_nf2 hok.1
  obtain ⟨hnc, hnc6⟩ := ok_nc2 hok.1
  refine z_aload_n (j := 0) o dX8_goes_0 rfl ?_
  refine z_callVv (As := []) (n := 0) (st := []) o dX8_goes_1 (c_X8_moves hB M N hok.1) zc_X8_195 (by decide) (i := 82) (by rw [hB]; exact zsh_lt rfl (by decide)) (zg_o rfl (by decide)) rfl rfl rfl (Nat.le_of_ble_eq_true rfl) (fun g2 p3 => ?_)
  cases p3
  refine zo_nm (fun M4 hM4 => ?_)
  refine z_iconst (v := 0) o dX8_goes_4 (by decide) ?_
  refine z_istore_n (i := 1) (lv2 := [(1, .int 0), (0, zref B 82)]) o dX8_goes_5 rfl (by decide) rfl ?_
  have hS0 : zSm M M4 := by rw [hM4]; exact zSm.row zSm.rf
  have hR0 : M4 83 = sp_moves (M 83) := by rw [hM4, va_up_self]
  have hokm := okA_moves hok
  have LOOP1 : ∀ nq kq : Nat, kq + nq = sp_nf (M 83) → ∀ M1 : zM, M1 83 = sp_richF (sp_moves (M 83)) kq → zSm M M1 → zW X B (zg B M1 N) 6 [(1, .int (nI kq)), (0, zref B 82)] [] := by
    intro nq
    induction nq with
    | zero =>
      intro kq hkq M1 hr1 hS1
      have hz : kq = sp_nf (M 83) := by omega
      have hr : M1 83 = sp_richF (sp_moves (M 83)) kq := hr1
      have hok1 : zOkAll (M1 83) := by rw [hr]; exact okA_richF hokm _ (by omega)
      have e2 : M1 83 2 = nI (sp_nf (M 83)) := by rw [hr, sp_richF_ne _ (fun i _ => by omega), sp_moves_ne hok.1 (by decide) (fun i p _ _ => by omega)]; exact hnf
      refine z_iload_n (j := 0) o dX8_goes_6 rfl ?_
      refine z_aload_n (j := 1) o dX8_goes_7 rfl ?_
      refine zo_get (i := 82) o hB dX8_goes_8 zf_X8_9 rfl (by decide) rfl ?_
      refine z_iconst (v := 2) o dX8_goes_11 (by decide) ?_
      refine zo_iald (i := 83) (j := 2) o hB dX8_goes_12 rfl (show 2 < 524 by omega) (by decide) ?_
      refine zo_rw (y := nI (sp_nf (M 83))) (e2) ?_
      refine z_icmpge (tgt := 46) o dX8_goes_13 (by decide) (fun c5 => ?_) (fun c5 => ?_)
      · refine z_iconst (v := 0) o dX8_goes_46 (by decide) ?_
        refine z_istore_n (i := 1) (lv2 := [(1, .int 0), (0, zref B 82)]) o dX8_goes_47 rfl (by decide) rfl ?_
        have hR1 : M1 83 = sp_goes1 (M 83) := by rw [hr, hz]; rfl
        have hokg := okA_goes1 hok
        have LOOP2 : ∀ nr pr : Nat, pr + nr = sp_nc (M 83) → ∀ M2 : zM, M2 83 = sp_feedF (sp_goes1 (M 83)) pr → zSm M M2 → zW X B (zg B M2 N) 48 [(1, .int (nI pr)), (0, zref B 82)] [] := by
          intro nr
          induction nr with
          | zero =>
            intro pr hpr M2 hr2 hS2
            have hz2 : pr = sp_nc (M 83) := by omega
            have hok2 : zOkAll (M2 83) := by rw [hr2]; exact okA_feedF hokg _ (by omega)
            have e3 : M2 83 3 = nI (sp_nc (M 83)) := by rw [hr2, sp_feedF_ne _ (fun i _ => by omega), sp_goes1_ne hok (by decide) (fun i p _ _ => by omega) (fun i _ => by omega)]; exact hnc
            refine z_iload_n (j := 0) o dX8_goes_48 rfl ?_
            refine z_aload_n (j := 1) o dX8_goes_49 rfl ?_
            refine zo_get (i := 82) o hB dX8_goes_50 zf_X8_9 rfl (by decide) rfl ?_
            refine z_iconst (v := 3) o dX8_goes_53 (by decide) ?_
            refine zo_iald (i := 83) (j := 3) o hB dX8_goes_54 rfl (show 3 < 524 by omega) (by decide) ?_
            refine zo_rw (y := nI (sp_nc (M 83))) (e3) ?_
            refine z_icmpge (tgt := 132) o dX8_goes_55 (by decide) (fun c6 => ?_) (fun c6 => ?_)
            · exact kret _ _ _ dX8_goes_132 ⟨_, rfl, by rw [hr2, hz2]; rfl, hS2⟩
            · exact absurd c6 (nI_nlt (a := pr) (b := sp_nc (M 83)) (by omega) (by omega))
          | succ nr ihr =>
            intro pr hpr M2 hr2 hS2
            have hlt2 : pr < sp_nc (M 83) := by omega
            have hok2 : zOkAll (M2 83) := by rw [hr2]; exact okA_feedF hokg _ (by omega)
            have e3 : M2 83 3 = nI (sp_nc (M 83)) := by rw [hr2, sp_feedF_ne _ (fun i _ => by omega), sp_goes1_ne hok (by decide) (fun i p _ _ => by omega) (fun i _ => by omega)]; exact hnc
            obtain ⟨cq, hcq, ecq⟩ := hok2.1 _ _ (zbd_c (i := pr) (by omega))
            refine z_iload_n (j := 0) o dX8_goes_48 rfl ?_
            refine z_aload_n (j := 1) o dX8_goes_49 rfl ?_
            refine zo_get (i := 82) o hB dX8_goes_50 zf_X8_9 rfl (by decide) rfl ?_
            refine z_iconst (v := 3) o dX8_goes_53 (by decide) ?_
            refine zo_iald (i := 83) (j := 3) o hB dX8_goes_54 rfl (show 3 < 524 by omega) (by decide) ?_
            refine zo_rw (y := nI (sp_nc (M 83))) (e3) ?_
            refine z_icmpge (tgt := 132) o dX8_goes_55 (by decide) (fun c7 => ?_) (fun c7 => ?_)
            · exact absurd (nI_lt (a := pr) (b := sp_nc (M 83)) (by omega) (by omega)) c7
            · refine z_aload_n (j := 1) o dX8_goes_58 rfl ?_
              refine zo_get (i := 82) o hB dX8_goes_59 zf_X8_9 rfl (by decide) rfl ?_
              refine z_bipush (v := 58) o dX8_goes_62 (by decide) ?_
              refine z_iconst (v := 2) o dX8_goes_64 (by decide) ?_
              refine z_iload_n (j := 0) o dX8_goes_65 rfl ?_
              refine z_imul o dX8_goes_66 ?_
              refine zo_rw (y := nI (2 * pr)) (zn_mul (rfl) (rfl)) ?_
              refine z_iadd o dX8_goes_67 ?_
              refine zo_rw (y := nI (58 + 2 * pr)) (zn_add (rfl) (rfl)) ?_
              refine zo_iald (i := 83) (j := 58 + 2 * pr) o hB dX8_goes_68 rfl (show 58 + 2 * pr < 524 by omega) (by decide) ?_
              refine zo_rw (y := nI cq) (ecq) ?_
              refine z_istore_n (i := 2) (lv2 := [(2, .int (nI cq)), (1, .int (nI pr)), (0, zref B 82)]) o dX8_goes_69 rfl (by decide) rfl ?_
              refine z_aload_n (j := 2) o dX8_goes_70 rfl ?_
              refine z_iconst (v := 1) o dX8_goes_71 (by decide) ?_
              refine z_iload_n (j := 0) o dX8_goes_72 rfl ?_
              refine z_aload_n (j := 2) o dX8_goes_73 rfl ?_
              refine z_iload_n (j := 0) o dX8_goes_74 rfl ?_
              refine z_callVi (As := [.int (nI cq)]) (n := 1) (st := [.int (nI cq), .int 1, zref B 82]) o dX8_goes_75 (c_X8_brandOf hB M2 N cq (by omega) hok2.1) zc_X8_127 (by decide) (i := 82) (by rw [hB]; exact zsh_lt rfl (by decide)) (zg_o rfl (by decide)) rfl rfl rfl (Nat.le_of_ble_eq_true rfl) (fun r8 g9 p10 => ?_)
              obtain ⟨rfl, rfl⟩ := p10
              refine z_aload_n (j := 2) o dX8_goes_78 rfl ?_
              refine zo_get (i := 82) o hB dX8_goes_79 zf_X8_9 rfl (by decide) rfl ?_
              refine z_iconst (v := 0) o dX8_goes_82 (by decide) ?_
              refine zo_iald (i := 83) (j := 0) o hB dX8_goes_83 rfl (show 0 < 524 by omega) (by decide) ?_
              refine z_bipush (v := 7) o dX8_goes_84 (by decide) ?_
              refine z_irem o dX8_goes_86 (by decide) ?_
              refine z_callVi (As := [.int 1, .int (nI cq), .int (sp_brand (M2 83) cq), .int ((M2 83 0) - (M2 83 0) / 7 * 7)]) (n := 4) (st := []) o dX8_goes_87 (c_X8_gives hB M2 N 1 (nI cq) (sp_brand (M2 83) cq) ((M2 83 0) - (M2 83 0) / 7 * 7) (by omega) hok2) zc_X8_92 (by decide) (i := 82) (by rw [hB]; exact zsh_lt rfl (by decide)) (zg_o rfl (by decide)) rfl rfl rfl (Nat.le_of_ble_eq_true rfl) (fun r11 g12 p13 => ?_)
              obtain ⟨F14, P15, rfl, rfl⟩ := p13
              refine z_istore_n (i := 3) (lv2 := [(3, .int (sp_gives (M2 83) 1 (nI cq) (sp_brand (M2 83) cq) ((M2 83 0) - (M2 83 0) / 7 * 7))), (2, .int (nI cq)), (1, .int (nI pr)), (0, zref B 82)]) o dX8_goes_90 rfl (by decide) rfl ?_
              refine z_aload_n (j := 3) o dX8_goes_91 rfl ?_
              refine zo_get (i := 82) o hB dX8_goes_92 zf_X8_9 rfl (by decide) rfl ?_
              refine z_bipush (v := 58) o dX8_goes_95 (by decide) ?_
              refine z_iconst (v := 2) o dX8_goes_97 (by decide) ?_
              refine z_iload_n (j := 2) o dX8_goes_98 rfl ?_
              refine z_imul o dX8_goes_99 ?_
              refine zo_rw (y := nI (2 * pr)) (zn_mul (rfl) (rfl)) ?_
              refine z_iadd o dX8_goes_100 ?_
              refine zo_rw (y := nI (58 + 2 * pr)) (zn_add (rfl) (rfl)) ?_
              refine z_iconst (v := 1) o dX8_goes_101 (by decide) ?_
              refine z_iadd o dX8_goes_102 ?_
              refine zo_rw (y := nI (58 + 2 * pr + 1)) (zn_add (rfl) (rfl)) ?_
              refine z_aload_n (j := 3) o dX8_goes_103 rfl ?_
              refine zo_get (i := 82) o hB dX8_goes_104 zf_X8_9 rfl (by decide) rfl ?_
              refine z_bipush (v := 58) o dX8_goes_107 (by decide) ?_
              refine z_iconst (v := 2) o dX8_goes_109 (by decide) ?_
              refine z_iload_n (j := 2) o dX8_goes_110 rfl ?_
              refine z_imul o dX8_goes_111 ?_
              refine zo_rw (y := nI (2 * pr)) (zn_mul (rfl) (rfl)) ?_
              refine z_iadd o dX8_goes_112 ?_
              refine zo_rw (y := nI (58 + 2 * pr)) (zn_add (rfl) (rfl)) ?_
              refine z_iconst (v := 1) o dX8_goes_113 (by decide) ?_
              refine z_iadd o dX8_goes_114 ?_
              refine zo_rw (y := nI (58 + 2 * pr + 1)) (zn_add (rfl) (rfl)) ?_
              refine zo_iald (i := 83) (j := 58 + 2 * pr + 1) o hB dX8_goes_115 rfl (show 58 + 2 * pr + 1 < 524 by omega) (by decide) ?_
              refine zo_rw (y := M2 83 (58 + 2 * pr + 1)) (rfl) ?_
              refine z_iload_n (j := 0) o dX8_goes_116 rfl ?_
              refine z_iadd o dX8_goes_117 ?_
              refine z_iconst (v := 0) o dX8_goes_118 (by decide) ?_
              refine z_sipush (v := 999) o dX8_goes_119 (by decide) ?_
              refine z_callSi (As := [.int ((M2 83 (58 + 2 * pr + 1)) + (sp_gives (M2 83) 1 (nI cq) (sp_brand (M2 83) cq) ((M2 83 0) - (M2 83 0) / 7 * 7))), .int 0, .int 999]) (n := 3) (st := [.int (nI (58 + 2 * pr + 1)), zref B 83]) o dX8_goes_122 (c_X8_held hB (va_up (va_up M2 92 F14) 93 P15) N ((M2 83 (58 + 2 * pr + 1)) + (sp_gives (M2 83) 1 (nI cq) (sp_brand (M2 83) cq) ((M2 83 0) - (M2 83 0) / 7 * 7))) 0 999) zc_X8_192 (by decide) rfl rfl (Nat.le_of_ble_eq_true rfl) (fun r16 g17 p18 => ?_)
              obtain ⟨rfl, rfl⟩ := p18
              refine zo_iast (i := 83) (j := 58 + 2 * pr + 1) o hB dX8_goes_125 rfl (show 58 + 2 * pr + 1 < 524 by omega) (by decide) ?_
              refine zo_nm (fun M19 hM19 => ?_)
              refine z_iinc (j := 2) (v := nI (pr + 1)) (lv2 := [(1, .int (nI (pr + 1))), (3, .int (sp_gives (M2 83) 1 (nI cq) (sp_brand (M2 83) cq) ((M2 83 0) - (M2 83 0) / 7 * 7))), (2, .int (nI cq)), (0, zref B 82)]) o dX8_goes_126 rfl (zn_ofInt _) (by decide) rfl ?_
              refine z_goto (tgt := 48) o dX8_goes_129 (by decide) ?_
              refine zo_lv [0, 3] rfl ?_
              exact ihr (pr + 1) (by omega) M19 (by
                rw [hM19, zu_at]
                show upd (M2 83) _ _ = sp_feed1 (sp_feedF (sp_goes1 (M 83)) pr) pr
                rw [← hr2]; unfold sp_feed1 zirem; rw [ecq, zn_nI (by omega)]) (by rw [hM19]; exact zSm.zu (zSm.pil (zSm.fac hS2)))
        refine zo_lv [0, 1] rfl ?_
        exact LOOP2 (sp_nc (M 83)) 0 (by omega) M1 hR1 hS1
      · exact absurd c5 (nI_nlt (a := kq) (b := sp_nf (M 83)) (by omega) (by omega))
    | succ nq ih =>
      intro kq hkq M1 hr1 hS1
      have hlt : kq < sp_nf (M 83) := by omega
      have hr : M1 83 = sp_richF (sp_moves (M 83)) kq := hr1
      have hok1 : zOkAll (M1 83) := by rw [hr]; exact okA_richF hokm _ (by omega)
      have e2 : M1 83 2 = nI (sp_nf (M 83)) := by rw [hr, sp_richF_ne _ (fun i _ => by omega), sp_moves_ne hok.1 (by decide) (fun i p _ _ => by omega)]; exact hnf
      refine z_iload_n (j := 0) o dX8_goes_6 rfl ?_
      refine z_aload_n (j := 1) o dX8_goes_7 rfl ?_
      refine zo_get (i := 82) o hB dX8_goes_8 zf_X8_9 rfl (by decide) rfl ?_
      refine z_iconst (v := 2) o dX8_goes_11 (by decide) ?_
      refine zo_iald (i := 83) (j := 2) o hB dX8_goes_12 rfl (show 2 < 524 by omega) (by decide) ?_
      refine zo_rw (y := nI (sp_nf (M 83))) (e2) ?_
      refine z_icmpge (tgt := 46) o dX8_goes_13 (by decide) (fun c20 => ?_) (fun c20 => ?_)
      · exact absurd (nI_lt (a := kq) (b := sp_nf (M 83)) (by omega) (by omega)) c20
      · refine z_aload_n (j := 1) o dX8_goes_16 rfl ?_
        refine z_iload_n (j := 0) o dX8_goes_17 rfl ?_
        refine z_iconst (v := 4) o dX8_goes_18 (by decide) ?_
        refine z_aload_n (j := 1) o dX8_goes_19 rfl ?_
        refine z_iload_n (j := 0) o dX8_goes_20 rfl ?_
        refine z_iconst (v := 4) o dX8_goes_21 (by decide) ?_
        refine z_callVi (As := [.int (nI kq), .int 4]) (n := 2) (st := [.int 4, .int (nI kq), zref B 82]) o dX8_goes_22 (c_X8_of hB M1 N kq 4 (by omega)) zc_X8_55 (by decide) (i := 82) (by rw [hB]; exact zsh_lt rfl (by decide)) (zg_o rfl (by decide)) rfl rfl rfl (Nat.le_of_ble_eq_true rfl) (fun r21 g22 p23 => ?_)
        obtain ⟨rfl, rfl⟩ := p23
        refine z_aload_n (j := 1) o dX8_goes_25 rfl ?_
        refine z_iload_n (j := 0) o dX8_goes_26 rfl ?_
        refine z_callVi (As := [.int (nI kq)]) (n := 1) (st := [.int (M1 83 (6 + 13 * kq + 4)), .int 4, .int (nI kq), zref B 82]) o dX8_goes_27 (c_X8_grazeOf hB M1 N kq (by omega) hok1) zc_X8_112 (by decide) (i := 82) (by rw [hB]; exact zsh_lt rfl (by decide)) (zg_o rfl (by decide)) rfl rfl rfl (Nat.le_of_ble_eq_true rfl) (fun r24 g25 p26 => ?_)
        obtain ⟨F27, P28, rfl, rfl⟩ := p26
        refine z_iadd o dX8_goes_30 ?_
        refine z_iconst (v := 0) o dX8_goes_31 (by decide) ?_
        refine z_ldc (v := 99999) o dX8_goes_32 zk_X8_198 ?_
        refine z_callSi (As := [.int ((M1 83 (6 + 13 * kq + 4)) + (sp_graze (M1 83) kq)), .int 0, .int 99999]) (n := 3) (st := [.int 4, .int (nI kq), zref B 82]) o dX8_goes_34 (c_X8_held hB (va_up (va_up M1 92 F27) 93 P28) N ((M1 83 (6 + 13 * kq + 4)) + (sp_graze (M1 83) kq)) 0 99999) zc_X8_192 (by decide) rfl rfl (Nat.le_of_ble_eq_true rfl) (fun r29 g30 p31 => ?_)
        obtain ⟨rfl, rfl⟩ := p31
        refine z_callVv (As := [.int (nI kq), .int 4, .int (zheld ((M1 83 (6 + 13 * kq + 4)) + (sp_graze (M1 83) kq)) 0 99999)]) (n := 3) (st := []) o dX8_goes_37 (c_X8_lets hB (va_up (va_up M1 92 F27) 93 P28) N kq 4 (zheld ((M1 83 (6 + 13 * kq + 4)) + (sp_graze (M1 83) kq)) 0 99999) (by omega)) zc_X8_65 (by decide) (i := 82) (by rw [hB]; exact zsh_lt rfl (by decide)) (zg_o rfl (by decide)) rfl rfl rfl (Nat.le_of_ble_eq_true rfl) (fun g33 p34 => ?_)
        cases p34
        refine zo_nm (fun M35 hM35 => ?_)
        refine z_iinc (j := 0) (v := nI (kq + 1)) (lv2 := [(1, .int (nI (kq + 1))), (0, zref B 82)]) o dX8_goes_40 rfl (zn_ofInt _) (by decide) rfl ?_
        refine z_goto (tgt := 6) o dX8_goes_43 (by decide) ?_
        refine zo_lv [0, 1] rfl ?_
        exact ih (kq + 1) (by omega) M35 (by
          rw [hM35, zu_at]
          show upd (M1 83) _ _ = sp_rich1 (sp_richF (sp_moves (M 83)) kq) kq
          rw [← hr]; rfl) (by rw [hM35]; exact zSm.zu (zSm.pil (zSm.fac hS1)))
  exact LOOP1 (sp_nf (M 83)) 0 (by omega) M4 hR0 hS0

