/-! the reference: all posts move -/
set_option maxHeartbeats 4000000 in
set_option maxRecDepth 100000 in
theorem c_X8_moves {B : zB} (hB : znn B = 95) (M : zM) (N : zN) (hok : zOkR (M 83)) : zCv B (zg B M N) yX8_moves cX8_moves 5 none 2 [zref B 82] (fun g' => g' = zg B (va_up M 83 (sp_moves (M 83))) N) := by
  refine zCv_of (by decide +kernel) (Nat.le_of_ble_eq_true rfl) ?_
  intro X o kret
  show zW X B (zg B M N) 0 [(0, zref B 82)] []
  obtain ⟨hnf, hnf4⟩ := ok_nf2 hok
  refine z_iconst (v := 0) o dX8_moves_0 (by decide) ?_
  refine z_istore_n (i := 1) (lv2 := [(1, .int 0), (0, zref B 82)]) o dX8_moves_1 rfl (by decide) rfl ?_
  have LOOP : ∀ nq kq : Nat, kq + nq = sp_nf (M 83) → ∀ M1 : zM, M1 = va_up M 83 (sp_mvF (M 83) kq) → zW X B (zg B M1 N) 2 [(1, .int (nI kq)), (0, zref B 82)] [] := by
    intro nq
    induction nq with
    | zero =>
      intro kq hkq M1 hM1
      have hz : kq = sp_nf (M 83) := by omega
      have hr : M1 83 = sp_mvF (M 83) kq := by rw [hM1, va_up_self]
      have hok1 : zOkR (M1 83) := by rw [hr]; exact ok_mvF hok _ (by omega)
      have e2 : M1 83 2 = nI (sp_nf (M 83)) := by rw [hr, sp_mvF_ne hok _ (by omega) (fun i p _ _ => by omega)]; exact hnf
      refine z_iload_n (j := 0) o dX8_moves_2 rfl ?_
      refine z_aload_n (j := 1) o dX8_moves_3 rfl ?_
      refine zo_get (i := 82) o hB dX8_moves_4 zf_X8_9 rfl (by decide) rfl ?_
      refine z_iconst (v := 2) o dX8_moves_7 (by decide) ?_
      refine zo_iald (i := 83) (j := 2) o hB dX8_moves_8 rfl (show 2 < 524 by omega) (by decide) ?_
      refine zo_rw (y := nI (sp_nf (M 83))) (e2) ?_
      refine z_icmpge (tgt := 127) o dX8_moves_9 (by decide) (fun c1 => ?_) (fun c1 => ?_)
      · refine z_aload_n (j := 1) o dX8_moves_127 rfl ?_
        refine zo_get (i := 82) o hB dX8_moves_128 zf_X8_9 rfl (by decide) rfl ?_
        refine z_iconst (v := 0) o dX8_moves_131 (by decide) ?_
        refine z_dup2 o dX8_moves_132 rfl rfl ?_
        refine zo_iald (i := 83) (j := 0) o hB dX8_moves_133 rfl (show 0 < 524 by omega) (by decide) ?_
        refine z_iconst (v := 1) o dX8_moves_134 (by decide) ?_
        refine z_iadd o dX8_moves_135 ?_
        refine zo_iast (i := 83) (j := 0) o hB dX8_moves_136 rfl (show 0 < 524 by omega) (by decide) ?_
        refine zo_nm (fun M2 hM2 => ?_)
        exact kret _ _ _ dX8_moves_137 (by rw [hM2, hM1, zu_va, va_up_self, hz]; rfl)
      · exact absurd c1 (nI_nlt (a := kq) (b := sp_nf (M 83)) (by omega) (by omega))
    | succ nq ih =>
      intro kq hkq M1 hM1
      have hlt : kq < sp_nf (M 83) := by omega
      have hr : M1 83 = sp_mvF (M 83) kq := by rw [hM1, va_up_self]
      have hok1 : zOkR (M1 83) := by rw [hr]; exact ok_mvF hok _ (by omega)
      have e2 : M1 83 2 = nI (sp_nf (M 83)) := by rw [hr, sp_mvF_ne hok _ (by omega) (fun i p _ _ => by omega)]; exact hnf
      refine z_iload_n (j := 0) o dX8_moves_2 rfl ?_
      refine z_aload_n (j := 1) o dX8_moves_3 rfl ?_
      refine zo_get (i := 82) o hB dX8_moves_4 zf_X8_9 rfl (by decide) rfl ?_
      refine z_iconst (v := 2) o dX8_moves_7 (by decide) ?_
      refine zo_iald (i := 83) (j := 2) o hB dX8_moves_8 rfl (show 2 < 524 by omega) (by decide) ?_
      refine zo_rw (y := nI (sp_nf (M 83))) (e2) ?_
      refine z_icmpge (tgt := 127) o dX8_moves_9 (by decide) (fun c3 => ?_) (fun c3 => ?_)
      · exact absurd (nI_lt (a := kq) (b := sp_nf (M 83)) (by omega) (by omega)) c3
      · have J : ∀ v : Int32, v = (if M1 83 (6 + 13 * kq + 0) = 1 ∨ M1 83 (6 + 13 * kq + 0) = 4 then 0 else 1) → zW X B (zg B M1 N) 37 [(1, .int (nI kq)), (0, zref B 82)] [.int v] := by
          intro v hv
          refine z_istore_n (i := 2) (lv2 := [(2, .int v), (1, .int (nI kq)), (0, zref B 82)]) o dX8_moves_37 rfl (by decide) rfl ?_
          refine z_iconst (v := 0) o dX8_moves_38 (by decide) ?_
          refine z_istore_n (i := 3) (lv2 := [(3, .int 0), (2, .int v), (1, .int (nI kq)), (0, zref B 82)]) o dX8_moves_39 rfl (by decide) rfl ?_
          have hnp := ok_np2 hok1 (i := kq) (by omega)
          have hnp0 : sp_np (M1 83) kq = sp_np (sp_mvF (M 83) kq) kq := by rw [hr]
          rw [hnp0] at hnp
          have LOOPI : ∀ nr pr : Nat, pr + nr = sp_np (sp_mvF (M 83) kq) kq → ∀ M2 : zM, M2 = va_up M 83 (sp_mvs (sp_mvF (M 83) kq) kq pr) → zW X B (zg B M2 N) 40 [(3, .int (nI pr)), (2, .int v), (1, .int (nI kq)), (0, zref B 82)] [] := by
            intro nr
            induction nr with
            | zero =>
              intro pr hpr M2 hM2
              have hz2 : pr = sp_np (sp_mvF (M 83) kq) kq := by omega
              have hr2 : M2 83 = sp_mvs (sp_mvF (M 83) kq) kq pr := by rw [hM2, va_up_self]
              have hok2 : zOkR (M2 83) := by rw [hr2, ← hr]; exact ok_mvs hok1 (by omega) _ (by omega)
              have e3 : M2 83 (6 + 13 * kq + 3) = nI (sp_np (sp_mvF (M 83) kq) kq) := by rw [hr2, sp_mvs_ne _ _ (fun p _ => by omega)]; have h9 := hnp.1; rw [hr] at h9; exact h9
              refine z_iload_n (j := 0) o dX8_moves_40 rfl ?_
              refine z_aload_n (j := 3) o dX8_moves_41 rfl ?_
              refine z_iload_n (j := 2) o dX8_moves_42 rfl ?_
              refine z_iconst (v := 3) o dX8_moves_43 (by decide) ?_
              refine z_callVi (As := [.int (nI kq), .int 3]) (n := 2) (st := [.int (nI pr)]) o dX8_moves_44 (c_X8_of hB M2 N kq 3 (by omega)) zc_X8_55 (by decide) (i := 82) (by rw [hB]; exact zsh_lt rfl (by decide)) (zg_o rfl (by decide)) rfl rfl rfl (Nat.le_of_ble_eq_true rfl) (fun r4 g5 p6 => ?_)
              obtain ⟨rfl, rfl⟩ := p6
              refine zo_rw (y := nI (sp_np (sp_mvF (M 83) kq) kq)) (e3) ?_
              refine z_icmpge (tgt := 121) o dX8_moves_47 (by decide) (fun c7 => ?_) (fun c7 => ?_)
              · refine z_iinc (j := 2) (v := nI (kq + 1)) (lv2 := [(1, .int (nI (kq + 1))), (3, .int (nI pr)), (2, .int v), (0, zref B 82)]) o dX8_moves_121 rfl (zn_ofInt _) (by decide) rfl ?_
                refine z_goto (tgt := 2) o dX8_moves_124 (by decide) ?_
                refine zo_lv [0, 3] rfl ?_
                exact ih (kq + 1) (by omega) M2 (by rw [hM2, hz2]; rfl)
              · exact absurd c7 (nI_nlt (a := pr) (b := sp_np (sp_mvF (M 83) kq) kq) (by omega) (by omega))
            | succ nr ihr =>
              intro pr hpr M2 hM2
              have hlt2 : pr < sp_np (sp_mvF (M 83) kq) kq := by omega
              have hr2 : M2 83 = sp_mvs (sp_mvF (M 83) kq) kq pr := by rw [hM2, va_up_self]
              have hok2 : zOkR (M2 83) := by rw [hr2, ← hr]; exact ok_mvs hok1 (by omega) _ (by omega)
              have e3 : M2 83 (6 + 13 * kq + 3) = nI (sp_np (sp_mvF (M 83) kq) kq) := by rw [hr2, sp_mvs_ne _ _ (fun p _ => by omega)]; have h9 := hnp.1; rw [hr] at h9; exact h9
              have hs : sp_mvs (sp_mvF (M 83) kq) kq (pr + 1) = sp_mv (M2 83) kq pr := by rw [hr2]; rfl
              have hkind : M2 83 (6 + 13 * kq + 0) = M1 83 (6 + 13 * kq + 0) := by rw [hr2, sp_mvs_ne _ _ (fun p _ => by omega), ← hr]
              refine z_iload_n (j := 0) o dX8_moves_40 rfl ?_
              refine z_aload_n (j := 3) o dX8_moves_41 rfl ?_
              refine z_iload_n (j := 2) o dX8_moves_42 rfl ?_
              refine z_iconst (v := 3) o dX8_moves_43 (by decide) ?_
              refine z_callVi (As := [.int (nI kq), .int 3]) (n := 2) (st := [.int (nI pr)]) o dX8_moves_44 (c_X8_of hB M2 N kq 3 (by omega)) zc_X8_55 (by decide) (i := 82) (by rw [hB]; exact zsh_lt rfl (by decide)) (zg_o rfl (by decide)) rfl rfl rfl (Nat.le_of_ble_eq_true rfl) (fun r8 g9 p10 => ?_)
              obtain ⟨rfl, rfl⟩ := p10
              refine zo_rw (y := nI (sp_np (sp_mvF (M 83) kq) kq)) (e3) ?_
              refine z_icmpge (tgt := 121) o dX8_moves_47 (by decide) (fun c11 => ?_) (fun c11 => ?_)
              · exact absurd (nI_lt (a := pr) (b := sp_np (sp_mvF (M 83) kq) kq) (by omega) (by omega)) c11
              · refine z_aload_n (j := 3) o dX8_moves_50 rfl ?_
                refine z_iload_n (j := 2) o dX8_moves_51 rfl ?_
                refine z_iconst (v := 5) o dX8_moves_52 (by decide) ?_
                refine z_iload_n (j := 0) o dX8_moves_53 rfl ?_
                refine z_iadd o dX8_moves_54 ?_
                refine zo_rw (y := nI (5 + pr)) (zn_add (rfl) (rfl)) ?_
                refine z_callVi (As := [.int (nI kq), .int (nI (5 + pr))]) (n := 2) (st := []) o dX8_moves_55 (c_X8_of hB M2 N kq (5 + pr) (by omega)) zc_X8_55 (by decide) (i := 82) (by rw [hB]; exact zsh_lt rfl (by decide)) (zg_o rfl (by decide)) rfl rfl rfl (Nat.le_of_ble_eq_true rfl) (fun r12 g13 p14 => ?_)
                obtain ⟨rfl, rfl⟩ := p14
                refine z_aload_n (j := 3) o dX8_moves_58 rfl ?_
                refine z_iload_n (j := 2) o dX8_moves_59 rfl ?_
                refine z_iload_n (j := 0) o dX8_moves_60 rfl ?_
                refine z_callVi (As := [.int (nI kq), .int (nI pr)]) (n := 2) (st := [.int (M2 83 (6 + 13 * kq + (5 + pr)))]) o dX8_moves_61 (c_X8_headsOf hB M2 N kq pr (by omega) (by omega) hok2) zc_X8_59 (by decide) (i := 82) (by rw [hB]; exact zsh_lt rfl (by decide)) (zg_o rfl (by decide)) rfl rfl rfl (Nat.le_of_ble_eq_true rfl) (fun r15 g16 p17 => ?_)
                obtain ⟨rfl, rfl⟩ := p17
                refine z_callSi (As := [.int (M2 83 (6 + 13 * kq + (5 + pr))), .int (sp_heads (M2 83) kq pr)]) (n := 2) (st := []) o dX8_moves_64 (c_X8_next hB M2 N (M2 83 (6 + 13 * kq + (5 + pr))) (sp_heads (M2 83) kq pr)) zc_X8_62 (by decide) rfl rfl (Nat.le_of_ble_eq_true rfl) (fun r18 g19 p20 => ?_)
                obtain ⟨rfl, rfl⟩ := p20
                refine zo_rw (y := sp_to (M2 83) kq pr) (rfl) ?_
                refine z_istore (i := 4) (lv2 := [(4, .int (sp_to (M2 83) kq pr)), (3, .int (nI pr)), (2, .int v), (1, .int (nI kq)), (0, zref B 82)]) o dX8_moves_67 (by decide) rfl ?_
                refine z_iload (j := 0) o dX8_moves_69 rfl ?_
                refine z_iflt (tgt := 115) o dX8_moves_71 (by decide) (fun c21 => ?_) (fun c21 => ?_)
                · refine z_iinc (j := 1) (v := nI (pr + 1)) (lv2 := [(3, .int (nI (pr + 1))), (4, .int (sp_to (M2 83) kq pr)), (2, .int v), (1, .int (nI kq)), (0, zref B 82)]) o dX8_moves_115 rfl (zn_ofInt _) (by decide) rfl ?_
                  refine z_goto (tgt := 40) o dX8_moves_118 (by decide) ?_
                  refine zo_lv [0, 2, 3, 4] rfl ?_
                  exact ihr (pr + 1) (by omega) M2 (by
                    have e9 : sp_mv (M2 83) kq pr = M2 83 := by
                      unfold sp_mv
                      rw [if_pos c21]
                    rw [hs, e9, hr2]; exact hM2)
                · obtain ⟨t, ht, et⟩ := sp_to_in hok2 (by omega) (by omega) c21
                  have h71 : ¬ nI t < 0 := by rw [← et]; exact c21
                  rw [et]
                  refine z_aload_n (j := 4) o dX8_moves_74 rfl ?_
                  refine zo_get (i := 82) o hB dX8_moves_75 zf_X8_9 rfl (by decide) rfl ?_
                  refine z_bipush (v := 70) o dX8_moves_78 (by decide) ?_
                  refine z_iload (j := 0) o dX8_moves_80 rfl ?_
                  refine z_iadd o dX8_moves_82 ?_
                  refine zo_rw (y := nI (70 + t)) (zn_add (rfl) (rfl)) ?_
                  refine zo_iald (i := 83) (j := 70 + t) o hB dX8_moves_83 rfl (show 70 + t < 524 by omega) (by decide) ?_
                  refine z_ifne (tgt := 115) o dX8_moves_84 (by decide) (fun c22 => ?_) (fun c22 => ?_)
                  · refine z_iinc (j := 1) (v := nI (pr + 1)) (lv2 := [(3, .int (nI (pr + 1))), (4, .int (nI t)), (2, .int v), (1, .int (nI kq)), (0, zref B 82)]) o dX8_moves_115 rfl (zn_ofInt _) (by decide) rfl ?_
                    refine z_goto (tgt := 40) o dX8_moves_118 (by decide) ?_
                    refine zo_lv [0, 2, 3, 4] rfl ?_
                    exact ihr (pr + 1) (by omega) M2 (by
                      have e9 : sp_mv (M2 83) kq pr = M2 83 := by
                        unfold sp_mv
                        rw [et, if_neg h71, zn_nI (by omega)]; rw [if_neg c22]
                      rw [hs, e9, hr2]; exact hM2)
                  · refine z_iload_n (j := 2) o dX8_moves_87 rfl ?_
                    refine z_ifne (tgt := 105) o dX8_moves_88 (by decide) (fun c23 => ?_) (fun c23 => ?_)
                    · refine z_aload_n (j := 4) o dX8_moves_105 rfl ?_
                      refine z_iload_n (j := 3) o dX8_moves_106 rfl ?_
                      refine z_iconst (v := 5) o dX8_moves_107 (by decide) ?_
                      refine z_iload_n (j := 1) o dX8_moves_108 rfl ?_
                      refine z_iadd o dX8_moves_109 ?_
                      refine zo_rw (y := nI (5 + pr)) (zn_add (rfl) (rfl)) ?_
                      refine z_iload (j := 0) o dX8_moves_110 rfl ?_
                      refine z_callVv (As := [.int (nI kq), .int (nI (5 + pr)), .int (nI t)]) (n := 3) (st := []) o dX8_moves_112 (c_X8_lets hB M2 N kq (5 + pr) (nI t) (by omega)) zc_X8_65 (by decide) (i := 82) (by rw [hB]; exact zsh_lt rfl (by decide)) (zg_o rfl (by decide)) rfl rfl rfl (Nat.le_of_ble_eq_true rfl) (fun g25 p26 => ?_)
                      cases p26
                      refine zo_nm (fun M27 hM27 => ?_)
                      refine z_iinc (j := 1) (v := nI (pr + 1)) (lv2 := [(3, .int (nI (pr + 1))), (4, .int (nI t)), (2, .int v), (1, .int (nI kq)), (0, zref B 82)]) o dX8_moves_115 rfl (zn_ofInt _) (by decide) rfl ?_
                      refine z_goto (tgt := 40) o dX8_moves_118 (by decide) ?_
                      refine zo_lv [0, 2, 3, 4] rfl ?_
                      exact ihr (pr + 1) (by omega) M27 (by
                        have e9 : sp_mv (M2 83) kq pr = upd (M2 83) (6 + 13 * kq + (5 + pr)) (nI t) := by
                          unfold sp_mv
                          rw [et, if_neg h71, zn_nI (by omega)]; rw [if_pos c22, if_neg (by rw [hkind]; intro q; rw [if_pos q] at hv; exact c23 hv)]
                        rw [hs, hM27, e9]; unfold zu; rw [hM2, va_up_twice, va_up_self])
                    · refine z_aload_n (j := 4) o dX8_moves_91 rfl ?_
                      refine zo_get (i := 82) o hB dX8_moves_92 zf_X8_9 rfl (by decide) rfl ?_
                      refine z_sipush (v := 134) o dX8_moves_95 (by decide) ?_
                      refine z_iload (j := 0) o dX8_moves_98 rfl ?_
                      refine z_iadd o dX8_moves_100 ?_
                      refine zo_rw (y := nI (134 + t)) (zn_add (rfl) (rfl)) ?_
                      refine zo_iald (i := 83) (j := 134 + t) o hB dX8_moves_101 rfl (show 134 + t < 524 by omega) (by decide) ?_
                      refine z_ifne (tgt := 115) o dX8_moves_102 (by decide) (fun c28 => ?_) (fun c28 => ?_)
                      · refine z_iinc (j := 1) (v := nI (pr + 1)) (lv2 := [(3, .int (nI (pr + 1))), (4, .int (nI t)), (2, .int v), (1, .int (nI kq)), (0, zref B 82)]) o dX8_moves_115 rfl (zn_ofInt _) (by decide) rfl ?_
                        refine z_goto (tgt := 40) o dX8_moves_118 (by decide) ?_
                        refine zo_lv [0, 2, 3, 4] rfl ?_
                        exact ihr (pr + 1) (by omega) M2 (by
                          have e9 : sp_mv (M2 83) kq pr = M2 83 := by
                            unfold sp_mv
                            rw [et, if_neg h71, zn_nI (by omega)]; rw [if_pos c22, if_pos (by rw [hkind]; exact Classical.byContradiction fun q => by rw [if_neg q] at hv; rw [hv] at c23; exact absurd c23 (by decide)), if_neg c28]
                          rw [hs, e9, hr2]; exact hM2)
                      · refine z_aload_n (j := 4) o dX8_moves_105 rfl ?_
                        refine z_iload_n (j := 3) o dX8_moves_106 rfl ?_
                        refine z_iconst (v := 5) o dX8_moves_107 (by decide) ?_
                        refine z_iload_n (j := 1) o dX8_moves_108 rfl ?_
                        refine z_iadd o dX8_moves_109 ?_
                        refine zo_rw (y := nI (5 + pr)) (zn_add (rfl) (rfl)) ?_
                        refine z_iload (j := 0) o dX8_moves_110 rfl ?_
                        refine z_callVv (As := [.int (nI kq), .int (nI (5 + pr)), .int (nI t)]) (n := 3) (st := []) o dX8_moves_112 (c_X8_lets hB M2 N kq (5 + pr) (nI t) (by omega)) zc_X8_65 (by decide) (i := 82) (by rw [hB]; exact zsh_lt rfl (by decide)) (zg_o rfl (by decide)) rfl rfl rfl (Nat.le_of_ble_eq_true rfl) (fun g30 p31 => ?_)
                        cases p31
                        refine zo_nm (fun M32 hM32 => ?_)
                        refine z_iinc (j := 1) (v := nI (pr + 1)) (lv2 := [(3, .int (nI (pr + 1))), (4, .int (nI t)), (2, .int v), (1, .int (nI kq)), (0, zref B 82)]) o dX8_moves_115 rfl (zn_ofInt _) (by decide) rfl ?_
                        refine z_goto (tgt := 40) o dX8_moves_118 (by decide) ?_
                        refine zo_lv [0, 2, 3, 4] rfl ?_
                        exact ihr (pr + 1) (by omega) M32 (by
                          have e9 : sp_mv (M2 83) kq pr = upd (M2 83) (6 + 13 * kq + (5 + pr)) (nI t) := by
                            unfold sp_mv
                            rw [et, if_neg h71, zn_nI (by omega)]; rw [if_pos c22, if_pos (by rw [hkind]; exact Classical.byContradiction fun q => by rw [if_neg q] at hv; rw [hv] at c23; exact absurd c23 (by decide)), if_pos c28]
                          rw [hs, hM32, e9]; unfold zu; rw [hM2, va_up_twice, va_up_self])
          exact LOOPI (sp_np (sp_mvF (M 83) kq) kq) 0 (by omega) M1 (by rw [hM1]; rfl)
        refine z_aload_n (j := 1) o dX8_moves_12 rfl ?_
        refine z_iload_n (j := 0) o dX8_moves_13 rfl ?_
        refine z_iconst (v := 0) o dX8_moves_14 (by decide) ?_
        refine z_callVi (As := [.int (nI kq), .int 0]) (n := 2) (st := []) o dX8_moves_15 (c_X8_of hB M1 N kq 0 (by omega)) zc_X8_55 (by decide) (i := 82) (by rw [hB]; exact zsh_lt rfl (by decide)) (zg_o rfl (by decide)) rfl rfl rfl (Nat.le_of_ble_eq_true rfl) (fun r33 g34 p35 => ?_)
        obtain ⟨rfl, rfl⟩ := p35
        refine z_iconst (v := 1) o dX8_moves_18 (by decide) ?_
        refine z_icmpeq (tgt := 36) o dX8_moves_19 (by decide) (fun c36 => ?_) (fun c36 => ?_)
        · refine z_iconst (v := 0) o dX8_moves_36 (by decide) ?_
          exact J _ (by split <;> first | rfl | (rename_i q; exact absurd (Or.inl (by assumption)) q) | (rename_i q; exact absurd (Or.inr (by assumption)) q) | (rename_i q; rcases q with q | q <;> contradiction))
        · refine z_aload_n (j := 1) o dX8_moves_22 rfl ?_
          refine z_iload_n (j := 0) o dX8_moves_23 rfl ?_
          refine z_iconst (v := 0) o dX8_moves_24 (by decide) ?_
          refine z_callVi (As := [.int (nI kq), .int 0]) (n := 2) (st := []) o dX8_moves_25 (c_X8_of hB M1 N kq 0 (by omega)) zc_X8_55 (by decide) (i := 82) (by rw [hB]; exact zsh_lt rfl (by decide)) (zg_o rfl (by decide)) rfl rfl rfl (Nat.le_of_ble_eq_true rfl) (fun r37 g38 p39 => ?_)
          obtain ⟨rfl, rfl⟩ := p39
          refine z_iconst (v := 4) o dX8_moves_28 (by decide) ?_
          refine z_icmpeq (tgt := 36) o dX8_moves_29 (by decide) (fun c40 => ?_) (fun c40 => ?_)
          · refine z_iconst (v := 0) o dX8_moves_36 (by decide) ?_
            exact J _ (by split <;> first | rfl | (rename_i q; exact absurd (Or.inl (by assumption)) q) | (rename_i q; exact absurd (Or.inr (by assumption)) q) | (rename_i q; rcases q with q | q <;> contradiction))
          · refine z_iconst (v := 1) o dX8_moves_32 (by decide) ?_
            refine z_goto (tgt := 37) o dX8_moves_33 (by decide) ?_
            exact J _ (by split <;> first | rfl | (rename_i q; exact absurd (Or.inl (by assumption)) q) | (rename_i q; exact absurd (Or.inr (by assumption)) q) | (rename_i q; rcases q with q | q <;> contradiction))
  exact LOOP (sp_nf (M 83)) 0 (by omega) M (va_up_id M 83).symm

