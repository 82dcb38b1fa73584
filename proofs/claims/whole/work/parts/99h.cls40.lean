/-! the class: its calls (12): salts -/
set_option maxHeartbeats 4000000 in
set_option maxRecDepth 100000 in
theorem k_salts {B : zB} (hB : znn B = 95) (M : zM) (N : zN) (A : zM) (f : Int32) (c : Int32) (n : Int32) (w : Int32) (hR : zRl M N A) (hok : zOkAll (A 83)) : zCi B (zg B M N) yX7_salts cX7_salts 9 (some .int) 6 [zref B 0, .int f, .int c, .int n, .int w] (fun r g' => ∃ (M1 : zM) (N1 : zN), g' = zg B M1 N1 ∧ r = (sq_salts A f c n w).1 ∧ zRl M1 N1 (sq_salts A f c n w).2 ∧ zHi M M1) := by
  refine zCi_of (by decide +kernel) (Nat.le_of_ble_eq_true rfl) .int rfl (fun _ _ _ => rfl) ?_
  intro X o kret
  show zW X B (zg B M N) 0 [(0, zref B 0), (1, .int f), (2, .int c), (3, .int n), (4, .int w)] []
  obtain ⟨hnf, hnf4⟩ := ok_nf2 hok.1
  obtain ⟨hnc, hnc6⟩ := ok_nc2 hok.1
  obtain ⟨hnt, hnt60⟩ := ok_nt2 hok.1
  obtain ⟨hnw, hnw24⟩ := ok_nw2 hok.1
  have hF : ∀ i, i < 4 → zFn (9 + 2 * i) M (A 83) i := fun i hi => hR.1.2.1 i hi
  refine z_aload_n (j := 0) o dX7_salts_0 rfl ?_
  refine z_iload_n (j := 1) o dX7_salts_1 rfl ?_
  refine z_callVi (As := [.int f]) (n := 1) (st := []) o dX7_salts_2 (c_X7_isFence hB M N A f hR hok.1) zc_X7_72 (by decide) (i := 0) (by rw [hB]; exact zsh_lt rfl (by decide)) (zg_o rfl (by decide)) rfl rfl rfl (Nat.le_of_ble_eq_true rfl) (fun r1 g2 p3 => ?_)
  obtain ⟨rfl, rfl⟩ := p3
  refine z_ifeq (tgt := 37) o dX7_salts_5 (by decide) (fun c4 => ?_) (fun c4 => ?_)
  · refine z_aload_n (j := 0) o dX7_salts_37 rfl ?_
    refine z_iconst (v := 1) o dX7_salts_38 (by decide) ?_
    refine z_callVi (As := [.int 1]) (n := 1) (st := []) o dX7_salts_39 (c_X7_error hB M N 1 (by decide) (by decide)) zc_X7_54 (by decide) (i := 0) (by rw [hB]; exact zsh_lt rfl (by decide)) (zg_o rfl (by decide)) rfl rfl rfl (Nat.le_of_ble_eq_true rfl) (fun r5 g6 p7 => ?_)
    obtain ⟨rfl, rfl⟩ := p7
    have hS : sq_salts A f c n w = ((zE 1), zEr A 1) := by
      unfold sq_salts;  rw [if_pos c4] <;> (try rfl)
    exact kret _ _ _ _ dX7_salts_42 ⟨zu M 73 1 (M 73 1 + 1), N, rfl, by rw [hS], by rw [hS]; exact (hR).er (k := 1) (by decide), ((zHi.rf (M := M))).zu (by decide)⟩
  · have hzf := c4
    rw [hnf] at hzf
    obtain ⟨fa, hfa, efa⟩ := zin_nat (by omega) hzf
    subst efa
    obtain ⟨hnpfa, hnp8⟩ := ok_np2 hok.1 (i := fa) (by omega)
    refine z_iload_n (j := 2) o dX7_salts_8 rfl ?_
    refine z_callSi (As := [.int c]) (n := 1) (st := []) o dX7_salts_9 (c_X1_isCell hB M N c) zc_X7_75 (by decide) rfl rfl (Nat.le_of_ble_eq_true rfl) (fun r8 g9 p10 => ?_)
    obtain ⟨rfl, rfl⟩ := p10
    refine zo_rw (y := zin c 0 63) (cg_cell_eq _) ?_
    refine z_ifeq (tgt := 37) o dX7_salts_12 (by decide) (fun c11 => ?_) (fun c11 => ?_)
    · refine z_aload_n (j := 0) o dX7_salts_37 rfl ?_
      refine z_iconst (v := 1) o dX7_salts_38 (by decide) ?_
      refine z_callVi (As := [.int 1]) (n := 1) (st := []) o dX7_salts_39 (c_X7_error hB M N 1 (by decide) (by decide)) zc_X7_54 (by decide) (i := 0) (by rw [hB]; exact zsh_lt rfl (by decide)) (zg_o rfl (by decide)) rfl rfl rfl (Nat.le_of_ble_eq_true rfl) (fun r12 g13 p14 => ?_)
      obtain ⟨rfl, rfl⟩ := p14
      have hS : sq_salts A (nI fa) c n w = ((zE 1), zEr A 1) := by
        unfold sq_salts; (try rw [zn_nI (n := fa) (by omega)]); rw [if_neg c4, if_pos c11] <;> (try rfl)
      exact kret _ _ _ _ dX7_salts_42 ⟨zu M 73 1 (M 73 1 + 1), N, rfl, by rw [hS], by rw [hS]; exact (hR).er (k := 1) (by decide), ((zHi.rf (M := M))).zu (by decide)⟩
    · obtain ⟨cc, hcc, ecc⟩ := zin_lit (n := 63) rfl (by decide) c11
      subst ecc
      refine z_iload_n (j := 3) o dX7_salts_15 rfl ?_
      refine z_iflt (tgt := 37) o dX7_salts_16 (by decide) (fun c15 => ?_) (fun c15 => ?_)
      · refine z_aload_n (j := 0) o dX7_salts_37 rfl ?_
        refine z_iconst (v := 1) o dX7_salts_38 (by decide) ?_
        refine z_callVi (As := [.int 1]) (n := 1) (st := []) o dX7_salts_39 (c_X7_error hB M N 1 (by decide) (by decide)) zc_X7_54 (by decide) (i := 0) (by rw [hB]; exact zsh_lt rfl (by decide)) (zg_o rfl (by decide)) rfl rfl rfl (Nat.le_of_ble_eq_true rfl) (fun r16 g17 p18 => ?_)
        obtain ⟨rfl, rfl⟩ := p18
        have hS : sq_salts A (nI fa) (nI cc) n w = ((zE 1), zEr A 1) := by
          unfold sq_salts; (try rw [zn_nI (n := fa) (by omega)]); (try rw [zn_nI (n := cc) (by omega)]); rw [if_neg c4, if_neg c11, if_pos (zin_lo c15)] <;> (try rfl)
        exact kret _ _ _ _ dX7_salts_42 ⟨zu M 73 1 (M 73 1 + 1), N, rfl, by rw [hS], by rw [hS]; exact (hR).er (k := 1) (by decide), ((zHi.rf (M := M))).zu (by decide)⟩
      · refine z_iload_n (j := 3) o dX7_salts_19 rfl ?_
        refine z_bipush (v := 6) o dX7_salts_20 (by decide) ?_
        refine z_icmpgt (tgt := 37) o dX7_salts_22 (by decide) (fun c19 => ?_) (fun c19 => ?_)
        · refine z_aload_n (j := 0) o dX7_salts_37 rfl ?_
          refine z_iconst (v := 1) o dX7_salts_38 (by decide) ?_
          refine z_callVi (As := [.int 1]) (n := 1) (st := []) o dX7_salts_39 (c_X7_error hB M N 1 (by decide) (by decide)) zc_X7_54 (by decide) (i := 0) (by rw [hB]; exact zsh_lt rfl (by decide)) (zg_o rfl (by decide)) rfl rfl rfl (Nat.le_of_ble_eq_true rfl) (fun r20 g21 p22 => ?_)
          obtain ⟨rfl, rfl⟩ := p22
          have hS : sq_salts A (nI fa) (nI cc) n w = ((zE 1), zEr A 1) := by
            unfold sq_salts; (try rw [zn_nI (n := fa) (by omega)]); (try rw [zn_nI (n := cc) (by omega)]); rw [if_neg c4, if_neg c11, if_pos (zin_hi c19)] <;> (try rfl)
          exact kret _ _ _ _ dX7_salts_42 ⟨zu M 73 1 (M 73 1 + 1), N, rfl, by rw [hS], by rw [hS]; exact (hR).er (k := 1) (by decide), ((zHi.rf (M := M))).zu (by decide)⟩
        · obtain ⟨na, hna, ena⟩ := zin_lit (n := 6) rfl (by decide) (zin_in c15 c19)
          subst ena
          refine z_iload (j := 4) o dX7_salts_25 rfl ?_
          refine z_iconst (v := (-1)) o dX7_salts_27 (by decide) ?_
          refine z_icmplt (tgt := 37) o dX7_salts_28 (by decide) (fun c23 => ?_) (fun c23 => ?_)
          · refine z_aload_n (j := 0) o dX7_salts_37 rfl ?_
            refine z_iconst (v := 1) o dX7_salts_38 (by decide) ?_
            refine z_callVi (As := [.int 1]) (n := 1) (st := []) o dX7_salts_39 (c_X7_error hB M N 1 (by decide) (by decide)) zc_X7_54 (by decide) (i := 0) (by rw [hB]; exact zsh_lt rfl (by decide)) (zg_o rfl (by decide)) rfl rfl rfl (Nat.le_of_ble_eq_true rfl) (fun r24 g25 p26 => ?_)
            obtain ⟨rfl, rfl⟩ := p26
            have hS : sq_salts A (nI fa) (nI cc) (nI na) w = ((zE 1), zEr A 1) := by
              unfold sq_salts; (try rw [zn_nI (n := fa) (by omega)]); (try rw [zn_nI (n := cc) (by omega)]); (try rw [zn_nI (n := na) (by omega)]); rw [if_neg c4, if_neg c11, if_neg (zin_in c15 c19), if_pos (zin_lo c23)] <;> (try rfl)
            exact kret _ _ _ _ dX7_salts_42 ⟨zu M 73 1 (M 73 1 + 1), N, rfl, by rw [hS], by rw [hS]; exact (hR).er (k := 1) (by decide), ((zHi.rf (M := M))).zu (by decide)⟩
          · refine z_iload (j := 4) o dX7_salts_31 rfl ?_
            refine z_iconst (v := 1) o dX7_salts_33 (by decide) ?_
            refine z_icmple (tgt := 43) o dX7_salts_34 (by decide) (fun c27 => ?_) (fun c27 => ?_)
            · refine z_aload_n (j := 0) o dX7_salts_43 rfl ?_
              refine z_iload_n (j := 1) o dX7_salts_44 rfl ?_
              refine z_iload_n (j := 2) o dX7_salts_45 rfl ?_
              refine z_iload_n (j := 3) o dX7_salts_46 rfl ?_
              refine z_callVl (As := [.int (nI fa), .int (nI cc), .int (nI na)]) (n := 3) (st := []) o dX7_salts_47 (c_X7_fewestSalts hB M N A fa cc na hR hok (by omega) (by omega) (by omega)) zc_X7_220 (by decide) (i := 0) (by rw [hB]; exact zsh_lt rfl (by decide)) (zg_o rfl (by decide)) rfl rfl rfl (Nat.le_of_ble_eq_true rfl) (fun r28 g29 p30 => ?_)
              obtain ⟨M9, rfl, hm9, e9⟩ := p30
              by_cases q0 : sp_hadB (A 83) fa cc na (-1) (-1) = true
              · refine zo_rwl (y := 0) (by rw [e9]; unfold sp_few; rw [if_pos q0]) ?_
                refine z_lstore (i := 5) (lv2 := [(5, .long 0), (0, zref B 0), (1, .int (nI fa)), (2, .int (nI cc)), (3, .int (nI na)), (4, .int w)]) o dX7_salts_50 (by decide) rfl ?_
                refine z_lload (j := 0) o dX7_salts_52 rfl ?_
                refine z_ldc2 (v := (-1)) o dX7_salts_54 zk_X7_137 ?_
                refine z_lcmp o dX7_salts_57 ?_
                refine z_ifne (tgt := 67) o dX7_salts_58 (by decide) (fun c31 => ?_) (fun c31 => ?_)
                · refine z_iload (j := 5) o dX7_salts_67 rfl ?_
                  refine z_ifge (tgt := 78) o dX7_salts_69 (by decide) (fun c32 => ?_) (fun c32 => ?_)
                  · refine z_iload (j := 5) o dX7_salts_78 rfl ?_
                    refine z_ifne (tgt := 88) o dX7_salts_80 (by decide) (fun c33 => ?_) (fun c33 => ?_)
                    · refine z_lload (j := 0) o dX7_salts_88 rfl ?_
                      refine z_lload (j := 0) o dX7_salts_90 rfl ?_
                      refine z_lconst (v := 1) o dX7_salts_92 (by decide) ?_
                      refine z_lsub o dX7_salts_93 ?_
                      refine z_land o dX7_salts_94 ?_
                      refine zo_rwl (y := 0) (by decide) ?_
                      refine z_lstore (i := 7) (lv2 := [(7, .long 0), (5, .long 0), (0, zref B 0), (1, .int (nI fa)), (2, .int (nI cc)), (3, .int (nI na)), (4, .int w)]) o dX7_salts_95 (by decide) rfl ?_
                      refine z_lload (j := 0) o dX7_salts_97 rfl ?_
                      refine z_lconst (v := 0) o dX7_salts_99 (by decide) ?_
                      refine z_lcmp o dX7_salts_100 ?_
                      refine z_ifne (tgt := 108) o dX7_salts_101 (by decide) (fun c34 => ?_) (fun c34 => ?_)
                      · exact absurd (lg0.mpr rfl) c34
                      · refine z_iconst (v := (-1)) o dX7_salts_104 (by decide) ?_
                        refine z_goto (tgt := 113) o dX7_salts_105 (by decide) ?_
                        have hS : sq_salts A (nI fa) (nI cc) (nI na) w = ((-1), A) := by
                          unfold sq_salts; (try rw [zn_nI (n := fa) (by omega)]); (try rw [zn_nI (n := cc) (by omega)]); (try rw [zn_nI (n := na) (by omega)]); rw [if_neg c4, if_neg c11, if_neg (zin_in c15 c19), if_neg (zin_in c23 c27), if_pos q0, if_neg c32] <;> (try rfl)
                        exact kret _ _ _ _ dX7_salts_113 ⟨M9, N, rfl, by rw [hS], by rw [hS]; exact (hR.few hm9), (show zHi M M9 from fun j hj => hm9 j (by omega))⟩
                    · refine z_lload (j := 0) o dX7_salts_83 rfl ?_
                      refine z_goto (tgt := 95) o dX7_salts_85 (by decide) ?_
                      refine z_lstore (i := 7) (lv2 := [(7, .long 0), (5, .long 0), (0, zref B 0), (1, .int (nI fa)), (2, .int (nI cc)), (3, .int (nI na)), (4, .int w)]) o dX7_salts_95 (by decide) rfl ?_
                      refine z_lload (j := 0) o dX7_salts_97 rfl ?_
                      refine z_lconst (v := 0) o dX7_salts_99 (by decide) ?_
                      refine z_lcmp o dX7_salts_100 ?_
                      refine z_ifne (tgt := 108) o dX7_salts_101 (by decide) (fun c35 => ?_) (fun c35 => ?_)
                      · exact absurd (lg0.mpr rfl) c35
                      · refine z_iconst (v := (-1)) o dX7_salts_104 (by decide) ?_
                        refine z_goto (tgt := 113) o dX7_salts_105 (by decide) ?_
                        have hS : sq_salts A (nI fa) (nI cc) (nI na) w = ((-1), A) := by
                          unfold sq_salts; (try rw [zn_nI (n := fa) (by omega)]); (try rw [zn_nI (n := cc) (by omega)]); (try rw [zn_nI (n := na) (by omega)]); rw [if_neg c4, if_neg c11, if_neg (zin_in c15 c19), if_neg (zin_in c23 c27), if_pos q0, if_neg c32] <;> (try rfl)
                        exact kret _ _ _ _ dX7_salts_113 ⟨M9, N, rfl, by rw [hS], by rw [hS]; exact (hR.few hm9), (show zHi M M9 from fun j hj => hm9 j (by omega))⟩
                  · refine z_lload (j := 0) o dX7_salts_72 rfl ?_
                    refine z_callSi (As := [.long 0]) (n := 1) (st := []) o dX7_salts_74 (c_J13_bitCount hB M9 N 0) zc_X7_102 (by decide) rfl rfl (Nat.le_of_ble_eq_true rfl) (fun r36 g37 p38 => ?_)
                    obtain ⟨rfl, rfl⟩ := p38
                    refine zo_rw (y := 0) (by decide) ?_
                    have hS : sq_salts A (nI fa) (nI cc) (nI na) w = (0, A) := by
                      unfold sq_salts; (try rw [zn_nI (n := fa) (by omega)]); (try rw [zn_nI (n := cc) (by omega)]); (try rw [zn_nI (n := na) (by omega)]); rw [if_neg c4, if_neg c11, if_neg (zin_in c15 c19), if_neg (zin_in c23 c27), if_pos q0, if_pos c32] <;> (try rfl)
                    exact kret _ _ _ _ dX7_salts_77 ⟨M9, N, rfl, by rw [hS], by rw [hS]; exact (hR.few hm9), (show zHi M M9 from fun j hj => hm9 j (by omega))⟩
                · exact absurd (lg0.mp c31) (by decide)
              · by_cases q1 : sp_sa (A 83) fa cc na < 64
                · obtain ⟨aa, eaa⟩ : ∃ k, sp_sa (A 83) fa cc na = k := ⟨_, rfl⟩
                  have haa : aa < 64 := by rw [← eaa]; exact q1
                  obtain ⟨m1, m2, m3⟩ := rm_one ⟨aa, haa⟩
                  refine zo_rwl (y := bt aa) (by rw [e9]; unfold sp_few; rw [if_neg q0, if_pos q1, eaa]) ?_
                  refine z_lstore (i := 5) (lv2 := [(5, .long (bt aa)), (0, zref B 0), (1, .int (nI fa)), (2, .int (nI cc)), (3, .int (nI na)), (4, .int w)]) o dX7_salts_50 (by decide) rfl ?_
                  refine z_lload (j := 0) o dX7_salts_52 rfl ?_
                  refine z_ldc2 (v := (-1)) o dX7_salts_54 zk_X7_137 ?_
                  refine z_lcmp o dX7_salts_57 ?_
                  refine z_ifne (tgt := 67) o dX7_salts_58 (by decide) (fun c39 => ?_) (fun c39 => ?_)
                  · refine z_iload (j := 5) o dX7_salts_67 rfl ?_
                    refine z_ifge (tgt := 78) o dX7_salts_69 (by decide) (fun c40 => ?_) (fun c40 => ?_)
                    · refine z_iload (j := 5) o dX7_salts_78 rfl ?_
                      refine z_ifne (tgt := 88) o dX7_salts_80 (by decide) (fun c41 => ?_) (fun c41 => ?_)
                      · refine z_lload (j := 0) o dX7_salts_88 rfl ?_
                        refine z_lload (j := 0) o dX7_salts_90 rfl ?_
                        refine z_lconst (v := 1) o dX7_salts_92 (by decide) ?_
                        refine z_lsub o dX7_salts_93 ?_
                        refine z_land o dX7_salts_94 ?_
                        refine zo_rwl (y := 0) (m1) ?_
                        refine z_lstore (i := 7) (lv2 := [(7, .long 0), (5, .long (bt aa)), (0, zref B 0), (1, .int (nI fa)), (2, .int (nI cc)), (3, .int (nI na)), (4, .int w)]) o dX7_salts_95 (by decide) rfl ?_
                        refine z_lload (j := 0) o dX7_salts_97 rfl ?_
                        refine z_lconst (v := 0) o dX7_salts_99 (by decide) ?_
                        refine z_lcmp o dX7_salts_100 ?_
                        refine z_ifne (tgt := 108) o dX7_salts_101 (by decide) (fun c42 => ?_) (fun c42 => ?_)
                        · exact absurd (lg0.mpr rfl) c42
                        · refine z_iconst (v := (-1)) o dX7_salts_104 (by decide) ?_
                          refine z_goto (tgt := 113) o dX7_salts_105 (by decide) ?_
                          have hS : sq_salts A (nI fa) (nI cc) (nI na) w = ((-1), A) := by
                            unfold sq_salts; (try rw [zn_nI (n := fa) (by omega)]); (try rw [zn_nI (n := cc) (by omega)]); (try rw [zn_nI (n := na) (by omega)]); rw [if_neg c4, if_neg c11, if_neg (zin_in c15 c19), if_neg (zin_in c23 c27), if_neg q0, if_pos q1, eaa, if_neg c40, if_neg c41] <;> (try rfl)
                          exact kret _ _ _ _ dX7_salts_113 ⟨M9, N, rfl, by rw [hS], by rw [hS]; exact (hR.few hm9), (show zHi M M9 from fun j hj => hm9 j (by omega))⟩
                      · refine z_lload (j := 0) o dX7_salts_83 rfl ?_
                        refine z_goto (tgt := 95) o dX7_salts_85 (by decide) ?_
                        refine z_lstore (i := 7) (lv2 := [(7, .long (bt aa)), (5, .long (bt aa)), (0, zref B 0), (1, .int (nI fa)), (2, .int (nI cc)), (3, .int (nI na)), (4, .int w)]) o dX7_salts_95 (by decide) rfl ?_
                        refine z_lload (j := 0) o dX7_salts_97 rfl ?_
                        refine z_lconst (v := 0) o dX7_salts_99 (by decide) ?_
                        refine z_lcmp o dX7_salts_100 ?_
                        refine z_ifne (tgt := 108) o dX7_salts_101 (by decide) (fun c43 => ?_) (fun c43 => ?_)
                        · refine z_lload (j := 0) o dX7_salts_108 rfl ?_
                          refine z_callSi (As := [.long (bt aa)]) (n := 1) (st := []) o dX7_salts_110 (c_J13_nz hB M9 N (bt aa)) zc_X7_224 (by decide) rfl rfl (Nat.le_of_ble_eq_true rfl) (fun r44 g45 p46 => ?_)
                          obtain ⟨rfl, rfl⟩ := p46
                          refine zo_rw (y := nI aa) (nz_one ⟨aa, haa⟩) ?_
                          have hS : sq_salts A (nI fa) (nI cc) (nI na) w = ((nI aa), A) := by
                            unfold sq_salts; (try rw [zn_nI (n := fa) (by omega)]); (try rw [zn_nI (n := cc) (by omega)]); (try rw [zn_nI (n := na) (by omega)]); rw [if_neg c4, if_neg c11, if_neg (zin_in c15 c19), if_neg (zin_in c23 c27), if_neg q0, if_pos q1, eaa, if_neg c40, if_pos c41] <;> (try rfl)
                          exact kret _ _ _ _ dX7_salts_113 ⟨M9, N, rfl, by rw [hS], by rw [hS]; exact (hR.few hm9), (show zHi M M9 from fun j hj => hm9 j (by omega))⟩
                        · exact absurd (lg0.mp c43) m2
                    · refine z_lload (j := 0) o dX7_salts_72 rfl ?_
                      refine z_callSi (As := [.long (bt aa)]) (n := 1) (st := []) o dX7_salts_74 (c_J13_bitCount hB M9 N (bt aa)) zc_X7_102 (by decide) rfl rfl (Nat.le_of_ble_eq_true rfl) (fun r47 g48 p49 => ?_)
                      obtain ⟨rfl, rfl⟩ := p49
                      refine zo_rw (y := 1) (by rw [pop_one ⟨aa, haa⟩]; rfl) ?_
                      have hS : sq_salts A (nI fa) (nI cc) (nI na) w = (1, A) := by
                        unfold sq_salts; (try rw [zn_nI (n := fa) (by omega)]); (try rw [zn_nI (n := cc) (by omega)]); (try rw [zn_nI (n := na) (by omega)]); rw [if_neg c4, if_neg c11, if_neg (zin_in c15 c19), if_neg (zin_in c23 c27), if_neg q0, if_pos q1, eaa, if_pos c40] <;> (try rfl)
                      exact kret _ _ _ _ dX7_salts_77 ⟨M9, N, rfl, by rw [hS], by rw [hS]; exact (hR.few hm9), (show zHi M M9 from fun j hj => hm9 j (by omega))⟩
                  · exact absurd (lg0.mp c39) m3
                · by_cases q2 : sp_sab (A 83) fa cc na < 64
                  · obtain ⟨ab, eab⟩ : ∃ k, sp_sab (A 83) fa cc na = k := ⟨_, rfl⟩
                    obtain ⟨bb, ebb⟩ : ∃ k, sp_sb (A 83) fa cc na ab = k := ⟨_, rfl⟩
                    have hab : ab < 64 := by rw [← eab]; exact q2
                    have hbb : bb < 64 := by
                      have h := find_hit (p := fun a => decide (sp_sb (A 83) fa cc na a < 64)) 64 0 (by have q9 := q2; unfold sp_sab at q9; omega)
                      have h2 : sp_sb (A 83) fa cc na (sp_sab (A 83) fa cc na) < 64 := of_decide_eq_true h
                      rw [eab, ebb] at h2; exact h2
                    have hlt : ab < bb := by
                      rw [← ebb]; unfold sp_sb; exact find_ge (63 - ab) (ab + 1)
                    obtain ⟨m1, m2, m3⟩ := rm_two ⟨ab, hab⟩ ⟨bb, hbb⟩ hlt
                    refine zo_rwl (y := bt ab ||| bt bb) (by rw [e9]; unfold sp_few; rw [if_neg q0, if_neg q1, if_pos q2, eab, ebb]) ?_
                    refine z_lstore (i := 5) (lv2 := [(5, .long (bt ab ||| bt bb)), (0, zref B 0), (1, .int (nI fa)), (2, .int (nI cc)), (3, .int (nI na)), (4, .int w)]) o dX7_salts_50 (by decide) rfl ?_
                    refine z_lload (j := 0) o dX7_salts_52 rfl ?_
                    refine z_ldc2 (v := (-1)) o dX7_salts_54 zk_X7_137 ?_
                    refine z_lcmp o dX7_salts_57 ?_
                    refine z_ifne (tgt := 67) o dX7_salts_58 (by decide) (fun c50 => ?_) (fun c50 => ?_)
                    · refine z_iload (j := 5) o dX7_salts_67 rfl ?_
                      refine z_ifge (tgt := 78) o dX7_salts_69 (by decide) (fun c51 => ?_) (fun c51 => ?_)
                      · refine z_iload (j := 5) o dX7_salts_78 rfl ?_
                        refine z_ifne (tgt := 88) o dX7_salts_80 (by decide) (fun c52 => ?_) (fun c52 => ?_)
                        · refine z_lload (j := 0) o dX7_salts_88 rfl ?_
                          refine z_lload (j := 0) o dX7_salts_90 rfl ?_
                          refine z_lconst (v := 1) o dX7_salts_92 (by decide) ?_
                          refine z_lsub o dX7_salts_93 ?_
                          refine z_land o dX7_salts_94 ?_
                          refine zo_rwl (y := bt bb) (m1) ?_
                          refine z_lstore (i := 7) (lv2 := [(7, .long (bt bb)), (5, .long (bt ab ||| bt bb)), (0, zref B 0), (1, .int (nI fa)), (2, .int (nI cc)), (3, .int (nI na)), (4, .int w)]) o dX7_salts_95 (by decide) rfl ?_
                          refine z_lload (j := 0) o dX7_salts_97 rfl ?_
                          refine z_lconst (v := 0) o dX7_salts_99 (by decide) ?_
                          refine z_lcmp o dX7_salts_100 ?_
                          refine z_ifne (tgt := 108) o dX7_salts_101 (by decide) (fun c53 => ?_) (fun c53 => ?_)
                          · refine z_lload (j := 0) o dX7_salts_108 rfl ?_
                            refine z_callSi (As := [.long (bt bb)]) (n := 1) (st := []) o dX7_salts_110 (c_J13_nz hB M9 N (bt bb)) zc_X7_224 (by decide) rfl rfl (Nat.le_of_ble_eq_true rfl) (fun r54 g55 p56 => ?_)
                            obtain ⟨rfl, rfl⟩ := p56
                            refine zo_rw (y := nI bb) (nz_one ⟨bb, hbb⟩) ?_
                            have hS : sq_salts A (nI fa) (nI cc) (nI na) w = ((nI bb), A) := by
                              unfold sq_salts; (try rw [zn_nI (n := fa) (by omega)]); (try rw [zn_nI (n := cc) (by omega)]); (try rw [zn_nI (n := na) (by omega)]); rw [if_neg c4, if_neg c11, if_neg (zin_in c15 c19), if_neg (zin_in c23 c27), if_neg q0, if_neg q1, if_pos q2, eab, ebb, if_neg c51, if_neg c52] <;> (try rfl)
                            exact kret _ _ _ _ dX7_salts_113 ⟨M9, N, rfl, by rw [hS], by rw [hS]; exact (hR.few hm9), (show zHi M M9 from fun j hj => hm9 j (by omega))⟩
                          · exact absurd (lg0.mp c53) (rm_one ⟨bb, hbb⟩).2.1
                        · refine z_lload (j := 0) o dX7_salts_83 rfl ?_
                          refine z_goto (tgt := 95) o dX7_salts_85 (by decide) ?_
                          refine z_lstore (i := 7) (lv2 := [(7, .long (bt ab ||| bt bb)), (5, .long (bt ab ||| bt bb)), (0, zref B 0), (1, .int (nI fa)), (2, .int (nI cc)), (3, .int (nI na)), (4, .int w)]) o dX7_salts_95 (by decide) rfl ?_
                          refine z_lload (j := 0) o dX7_salts_97 rfl ?_
                          refine z_lconst (v := 0) o dX7_salts_99 (by decide) ?_
                          refine z_lcmp o dX7_salts_100 ?_
                          refine z_ifne (tgt := 108) o dX7_salts_101 (by decide) (fun c57 => ?_) (fun c57 => ?_)
                          · refine z_lload (j := 0) o dX7_salts_108 rfl ?_
                            refine z_callSi (As := [.long (bt ab ||| bt bb)]) (n := 1) (st := []) o dX7_salts_110 (c_J13_nz hB M9 N (bt ab ||| bt bb)) zc_X7_224 (by decide) rfl rfl (Nat.le_of_ble_eq_true rfl) (fun r58 g59 p60 => ?_)
                            obtain ⟨rfl, rfl⟩ := p60
                            refine zo_rw (y := nI ab) (nz_two ⟨ab, hab⟩ ⟨bb, hbb⟩ hlt) ?_
                            have hS : sq_salts A (nI fa) (nI cc) (nI na) w = ((nI ab), A) := by
                              unfold sq_salts; (try rw [zn_nI (n := fa) (by omega)]); (try rw [zn_nI (n := cc) (by omega)]); (try rw [zn_nI (n := na) (by omega)]); rw [if_neg c4, if_neg c11, if_neg (zin_in c15 c19), if_neg (zin_in c23 c27), if_neg q0, if_neg q1, if_pos q2, eab, ebb, if_neg c51, if_pos c52] <;> (try rfl)
                            exact kret _ _ _ _ dX7_salts_113 ⟨M9, N, rfl, by rw [hS], by rw [hS]; exact (hR.few hm9), (show zHi M M9 from fun j hj => hm9 j (by omega))⟩
                          · exact absurd (lg0.mp c57) m2
                      · refine z_lload (j := 0) o dX7_salts_72 rfl ?_
                        refine z_callSi (As := [.long (bt ab ||| bt bb)]) (n := 1) (st := []) o dX7_salts_74 (c_J13_bitCount hB M9 N (bt ab ||| bt bb)) zc_X7_102 (by decide) rfl rfl (Nat.le_of_ble_eq_true rfl) (fun r61 g62 p63 => ?_)
                        obtain ⟨rfl, rfl⟩ := p63
                        refine zo_rw (y := 2) (by rw [pop_two ⟨ab, hab⟩ ⟨bb, hbb⟩ hlt]; rfl) ?_
                        have hS : sq_salts A (nI fa) (nI cc) (nI na) w = (2, A) := by
                          unfold sq_salts; (try rw [zn_nI (n := fa) (by omega)]); (try rw [zn_nI (n := cc) (by omega)]); (try rw [zn_nI (n := na) (by omega)]); rw [if_neg c4, if_neg c11, if_neg (zin_in c15 c19), if_neg (zin_in c23 c27), if_neg q0, if_neg q1, if_pos q2, eab, ebb, if_pos c51] <;> (try rfl)
                        exact kret _ _ _ _ dX7_salts_77 ⟨M9, N, rfl, by rw [hS], by rw [hS]; exact (hR.few hm9), (show zHi M M9 from fun j hj => hm9 j (by omega))⟩
                    · exact absurd (lg0.mp c50) m3
                  · refine zo_rwl (y := -1) (by rw [e9]; unfold sp_few; rw [if_neg q0, if_neg q1, if_neg q2]) ?_
                    refine z_lstore (i := 5) (lv2 := [(5, .long (-1)), (0, zref B 0), (1, .int (nI fa)), (2, .int (nI cc)), (3, .int (nI na)), (4, .int w)]) o dX7_salts_50 (by decide) rfl ?_
                    refine z_lload (j := 0) o dX7_salts_52 rfl ?_
                    refine z_ldc2 (v := (-1)) o dX7_salts_54 zk_X7_137 ?_
                    refine z_lcmp o dX7_salts_57 ?_
                    refine z_ifne (tgt := 67) o dX7_salts_58 (by decide) (fun c64 => ?_) (fun c64 => ?_)
                    · exact absurd (lg0.mpr rfl) c64
                    · refine z_aload_n (j := 1) o dX7_salts_61 rfl ?_
                      refine z_iconst (v := 2) o dX7_salts_62 (by decide) ?_
                      refine z_callVi (As := [.int 2]) (n := 1) (st := []) o dX7_salts_63 (c_X7_error hB M9 N 2 (by decide) (by decide)) zc_X7_54 (by decide) (i := 0) (by rw [hB]; exact zsh_lt rfl (by decide)) (zg_o rfl (by decide)) rfl rfl rfl (Nat.le_of_ble_eq_true rfl) (fun r65 g66 p67 => ?_)
                      obtain ⟨rfl, rfl⟩ := p67
                      have hS : sq_salts A (nI fa) (nI cc) (nI na) w = ((zE 2), zEr A 2) := by
                        unfold sq_salts; (try rw [zn_nI (n := fa) (by omega)]); (try rw [zn_nI (n := cc) (by omega)]); (try rw [zn_nI (n := na) (by omega)]); rw [if_neg c4, if_neg c11, if_neg (zin_in c15 c19), if_neg (zin_in c23 c27), if_neg q0, if_neg q1, if_neg q2] <;> (try rfl)
                      exact kret _ _ _ _ dX7_salts_66 ⟨zu M9 73 2 (M9 73 2 + 1), N, rfl, by rw [hS], by rw [hS]; exact ((hR.few hm9)).er (k := 2) (by decide), ((show zHi M M9 from fun j hj => hm9 j (by omega))).zu (by decide)⟩
            · refine z_aload_n (j := 0) o dX7_salts_37 rfl ?_
              refine z_iconst (v := 1) o dX7_salts_38 (by decide) ?_
              refine z_callVi (As := [.int 1]) (n := 1) (st := []) o dX7_salts_39 (c_X7_error hB M N 1 (by decide) (by decide)) zc_X7_54 (by decide) (i := 0) (by rw [hB]; exact zsh_lt rfl (by decide)) (zg_o rfl (by decide)) rfl rfl rfl (Nat.le_of_ble_eq_true rfl) (fun r68 g69 p70 => ?_)
              obtain ⟨rfl, rfl⟩ := p70
              have hS : sq_salts A (nI fa) (nI cc) (nI na) w = ((zE 1), zEr A 1) := by
                unfold sq_salts; (try rw [zn_nI (n := fa) (by omega)]); (try rw [zn_nI (n := cc) (by omega)]); (try rw [zn_nI (n := na) (by omega)]); rw [if_neg c4, if_neg c11, if_neg (zin_in c15 c19), if_pos (zin_hi c27)] <;> (try rfl)
              exact kret _ _ _ _ dX7_salts_42 ⟨zu M 73 1 (M 73 1 + 1), N, rfl, by rw [hS], by rw [hS]; exact (hR).er (k := 1) (by decide), ((zHi.rf (M := M))).zu (by decide)⟩

