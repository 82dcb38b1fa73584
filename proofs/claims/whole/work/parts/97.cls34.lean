/-! the class: its calls (8): sheets -/
set_option maxHeartbeats 4000000 in
set_option maxRecDepth 100000 in
theorem k_sheet {B : zB} (hB : znn B = 95) (M : zM) (N : zN) (A : zM) (s : Int32) (b : Int32) (n : Int32) (hR : zRl M N A) (hok : zOkAll (A 83)) : zCi B (zg B M N) yX7_sheet cX7_sheet 4 (some .int) 1 [zref B 0, .int s, .int b, .int n] (fun r g' => ∃ (M1 : zM) (N1 : zN), g' = zg B M1 N1 ∧ r = (sq_sheet A s b n).1 ∧ zRl M1 N1 (sq_sheet A s b n).2 ∧ zHi M M1) := by
  refine zCi_of (by decide +kernel) (Nat.le_of_ble_eq_true rfl) .int rfl (fun _ _ _ => rfl) ?_
  intro X o kret
  show zW X B (zg B M N) 0 [(0, zref B 0), (1, .int s), (2, .int b), (3, .int n)] []
  obtain ⟨hnf, hnf4⟩ := ok_nf2 hok.1
  obtain ⟨hnc, hnc6⟩ := ok_nc2 hok.1
  obtain ⟨hnt, hnt60⟩ := ok_nt2 hok.1
  obtain ⟨hnw, hnw24⟩ := ok_nw2 hok.1
  have hF : ∀ i, i < 4 → zFn (9 + 2 * i) M (A 83) i := fun i hi => hR.1.2.1 i hi
  refine z_iload_n (j := 1) o dX7_sheet_0 rfl ?_
  refine z_callSi (As := [.int s]) (n := 1) (st := []) o dX7_sheet_1 (c_X7_isSheet hB M N s) zc_X7_235 (by decide) rfl rfl (Nat.le_of_ble_eq_true rfl) (fun r1 g2 p3 => ?_)
  obtain ⟨rfl, rfl⟩ := p3
  refine z_ifeq (tgt := 14) o dX7_sheet_4 (by decide) (fun c4 => ?_) (fun c4 => ?_)
  · refine z_aload_n (j := 0) o dX7_sheet_14 rfl ?_
    refine z_iconst (v := 1) o dX7_sheet_15 (by decide) ?_
    refine z_callVi (As := [.int 1]) (n := 1) (st := []) o dX7_sheet_16 (c_X7_error hB M N 1 (by decide) (by decide)) zc_X7_54 (by decide) (i := 0) (by rw [hB]; exact zsh_lt rfl (by decide)) (zg_o rfl (by decide)) rfl rfl rfl (Nat.le_of_ble_eq_true rfl) (fun r5 g6 p7 => ?_)
    obtain ⟨rfl, rfl⟩ := p7
    have hS : sq_sheet A s b n = ((zE 1), zEr A 1) := by
      unfold sq_sheet;  rw [if_pos c4] <;> (try rfl)
    exact kret _ _ _ _ dX7_sheet_19 ⟨zu M 73 1 (M 73 1 + 1), N, rfl, by rw [hS], by rw [hS]; exact (hR).er (k := 1) (by decide), ((zHi.rf (M := M))).zu (by decide)⟩
  · obtain ⟨sa, hsa, esa⟩ := zin_lit (n := 3) rfl (by decide) c4
    subst esa
    by_cases b0 : b = 0
    · obtain rfl : b = 0 := b0
      refine z_iload_n (j := 2) o dX7_sheet_7 rfl ?_
      refine z_callSi (As := [.int 0]) (n := 1) (st := []) o dX7_sheet_8 (c_X4_isBits hB M N 0) zc_X7_259 (by decide) rfl rfl (Nat.le_of_ble_eq_true rfl) (fun r8 g9 p10 => ?_)
      obtain ⟨rfl, rfl⟩ := p10
      refine zo_rw (y := 1) (by decide) ?_
      refine z_ifne (tgt := 20) o dX7_sheet_11 (by decide) (fun c11 => ?_) (fun c11 => ?_)
      · refine z_iload_n (j := 2) o dX7_sheet_20 rfl ?_
        refine z_ifeq (tgt := 34) o dX7_sheet_21 (by decide) (fun c12 => ?_) (fun c12 => ?_)
        · refine z_iload_n (j := 2) o dX7_sheet_34 rfl ?_
          refine z_ifeq (tgt := 50) o dX7_sheet_35 (by decide) (fun c13 => ?_) (fun c13 => ?_)
          · refine z_aload_n (j := 0) o dX7_sheet_50 rfl ?_
            refine zo_get (i := 0) o hB dX7_sheet_51 zf_X7_38 rfl (by decide) (rfl) ?_
            refine z_iload_n (j := 1) o dX7_sheet_54 rfl ?_
            refine zo_aldS (i := 72) (j := sa) o hB dX7_sheet_55 rfl (show sa < 4 by omega) (by decide) ?_
            refine z_iload_n (j := 2) o dX7_sheet_56 rfl ?_
            refine z_iload_n (j := 2) o dX7_sheet_57 rfl ?_
            refine z_ifne (tgt := 65) o dX7_sheet_58 (by decide) (fun c14 => ?_) (fun c14 => ?_)
            · exact absurd c14 (by decide)
            · refine z_iconst (v := 0) o dX7_sheet_61 (by decide) ?_
              refine z_goto (tgt := 66) o dX7_sheet_62 (by decide) ?_
              refine z_callVv (As := [.int 0, .int 0]) (n := 2) (st := []) o dX7_sheet_66 (c_X4_begin hB M N (74 + 2 * sa) 0 0 (zh_sheet (by omega))) zc_X7_262 (by decide) (i := 74 + 2 * sa) (by rw [hB]; exact zsh_lt (zh_sheet (by omega)) (by decide)) (zg_o (zh_sheet (by omega)) (by decide)) rfl rfl rfl (Nat.le_of_ble_eq_true rfl) (fun g16 p17 => ?_)
              obtain ⟨F9, rfl, hF9⟩ := p17
              have hRs : zRl (va_up (zu (zu M (74 + 2 * sa) 2 0) (74 + 2 * sa) 1 0) (74 + 2 * sa + 1) F9) N (va_up (va_up (va_up A 87 (upd (A 87) sa 0)) 88 (upd (A 88) sa 0)) 89 (sp_zero (A 89) sa 24)) := hR.shb (by omega) hF9
              refine z_iconst (v := 1) o dX7_sheet_69 (by decide) ?_
              have hS : sq_sheet A (nI sa) 0 n = (1, va_up (va_up (va_up A 87 (upd (A 87) sa 0)) 88 (upd (A 88) sa 0)) 89 (sp_zero (A 89) sa 24)) := by
                unfold sq_sheet; (try rw [zn_nI (n := sa) (by omega)]); rw [if_neg c4, if_pos rfl] <;> (try rfl)
              exact kret _ _ _ _ dX7_sheet_70 ⟨va_up (zu (zu M (74 + 2 * sa) 2 0) (74 + 2 * sa) 1 0) (74 + 2 * sa + 1) F9, N, rfl, by rw [hS], by rw [hS]; exact hRs, ((((zHi.rf (M := M)).zu (i := 74 + 2 * sa) (by omega)).zu (i := 74 + 2 * sa) (by omega)).va (i := 74 + 2 * sa + 1) (by omega))⟩
          · exact absurd c13 (by decide)
        · exact absurd c12 (by decide)
      · exact absurd c11 (by decide)
    · by_cases b8 : b = 8
      · obtain rfl : b = 8 := b8
        refine z_iload_n (j := 2) o dX7_sheet_7 rfl ?_
        refine z_callSi (As := [.int 8]) (n := 1) (st := []) o dX7_sheet_8 (c_X4_isBits hB M N 8) zc_X7_259 (by decide) rfl rfl (Nat.le_of_ble_eq_true rfl) (fun r18 g19 p20 => ?_)
        obtain ⟨rfl, rfl⟩ := p20
        refine zo_rw (y := 1) (by decide) ?_
        refine z_ifne (tgt := 20) o dX7_sheet_11 (by decide) (fun c21 => ?_) (fun c21 => ?_)
        · refine z_iload_n (j := 2) o dX7_sheet_20 rfl ?_
          refine z_ifeq (tgt := 34) o dX7_sheet_21 (by decide) (fun c22 => ?_) (fun c22 => ?_)
          · exact absurd c22 (by decide)
          · refine z_iload_n (j := 3) o dX7_sheet_24 rfl ?_
            refine z_ifge (tgt := 34) o dX7_sheet_25 (by decide) (fun c23 => ?_) (fun c23 => ?_)
            · refine z_iload_n (j := 2) o dX7_sheet_34 rfl ?_
              refine z_ifeq (tgt := 50) o dX7_sheet_35 (by decide) (fun c24 => ?_) (fun c24 => ?_)
              · exact absurd c24 (by decide)
              · refine z_iload_n (j := 3) o dX7_sheet_38 rfl ?_
                refine z_bipush (v := 24) o dX7_sheet_39 (by decide) ?_
                refine z_icmple (tgt := 50) o dX7_sheet_41 (by decide) (fun c25 => ?_) (fun c25 => ?_)
                · refine z_aload_n (j := 0) o dX7_sheet_50 rfl ?_
                  refine zo_get (i := 0) o hB dX7_sheet_51 zf_X7_38 rfl (by decide) (rfl) ?_
                  refine z_iload_n (j := 1) o dX7_sheet_54 rfl ?_
                  refine zo_aldS (i := 72) (j := sa) o hB dX7_sheet_55 rfl (show sa < 4 by omega) (by decide) ?_
                  refine z_iload_n (j := 2) o dX7_sheet_56 rfl ?_
                  refine z_iload_n (j := 2) o dX7_sheet_57 rfl ?_
                  refine z_ifne (tgt := 65) o dX7_sheet_58 (by decide) (fun c26 => ?_) (fun c26 => ?_)
                  · refine z_iload_n (j := 3) o dX7_sheet_65 rfl ?_
                    refine z_callVv (As := [.int 8, .int n]) (n := 2) (st := []) o dX7_sheet_66 (c_X4_begin hB M N (74 + 2 * sa) 8 n (zh_sheet (by omega))) zc_X7_262 (by decide) (i := 74 + 2 * sa) (by rw [hB]; exact zsh_lt (zh_sheet (by omega)) (by decide)) (zg_o (zh_sheet (by omega)) (by decide)) rfl rfl rfl (Nat.le_of_ble_eq_true rfl) (fun g28 p29 => ?_)
                    obtain ⟨F9, rfl, hF9⟩ := p29
                    have hRs : zRl (va_up (zu (zu M (74 + 2 * sa) 2 8) (74 + 2 * sa) 1 n) (74 + 2 * sa + 1) F9) N (va_up (va_up (va_up A 87 (upd (A 87) sa 8)) 88 (upd (A 88) sa n)) 89 (sp_zero (A 89) sa 24)) := hR.shb (by omega) hF9
                    refine z_iconst (v := 1) o dX7_sheet_69 (by decide) ?_
                    have hS : sq_sheet A (nI sa) 8 n = (1, va_up (va_up (va_up A 87 (upd (A 87) sa 8)) 88 (upd (A 88) sa n)) 89 (sp_zero (A 89) sa 24)) := by
                      unfold sq_sheet; (try rw [zn_nI (n := sa) (by omega)]); rw [if_neg c4, if_neg (show ¬ (8 : Int32) = 0 by decide), if_pos rfl, if_neg c23, if_neg c25] <;> (try rfl)
                    exact kret _ _ _ _ dX7_sheet_70 ⟨va_up (zu (zu M (74 + 2 * sa) 2 8) (74 + 2 * sa) 1 n) (74 + 2 * sa + 1) F9, N, rfl, by rw [hS], by rw [hS]; exact hRs, ((((zHi.rf (M := M)).zu (i := 74 + 2 * sa) (by omega)).zu (i := 74 + 2 * sa) (by omega)).va (i := 74 + 2 * sa + 1) (by omega))⟩
                  · exact absurd c26 (by decide)
                · refine z_aload_n (j := 0) o dX7_sheet_44 rfl ?_
                  refine z_iconst (v := 1) o dX7_sheet_45 (by decide) ?_
                  refine z_callVi (As := [.int 1]) (n := 1) (st := []) o dX7_sheet_46 (c_X7_error hB M N 1 (by decide) (by decide)) zc_X7_54 (by decide) (i := 0) (by rw [hB]; exact zsh_lt rfl (by decide)) (zg_o rfl (by decide)) rfl rfl rfl (Nat.le_of_ble_eq_true rfl) (fun r30 g31 p32 => ?_)
                  obtain ⟨rfl, rfl⟩ := p32
                  have hS : sq_sheet A (nI sa) 8 n = ((zE 1), zEr A 1) := by
                    unfold sq_sheet; (try rw [zn_nI (n := sa) (by omega)]); rw [if_neg c4, if_neg (show ¬ (8 : Int32) = 0 by decide), if_pos rfl, if_neg c23, if_pos c25] <;> (try rfl)
                  exact kret _ _ _ _ dX7_sheet_49 ⟨zu M 73 1 (M 73 1 + 1), N, rfl, by rw [hS], by rw [hS]; exact (hR).er (k := 1) (by decide), ((zHi.rf (M := M))).zu (by decide)⟩
            · refine z_aload_n (j := 0) o dX7_sheet_28 rfl ?_
              refine z_iconst (v := 3) o dX7_sheet_29 (by decide) ?_
              refine z_callVi (As := [.int 3]) (n := 1) (st := []) o dX7_sheet_30 (c_X7_error hB M N 3 (by decide) (by decide)) zc_X7_54 (by decide) (i := 0) (by rw [hB]; exact zsh_lt rfl (by decide)) (zg_o rfl (by decide)) rfl rfl rfl (Nat.le_of_ble_eq_true rfl) (fun r33 g34 p35 => ?_)
              obtain ⟨rfl, rfl⟩ := p35
              have hS : sq_sheet A (nI sa) 8 n = ((zE 3), zEr A 3) := by
                unfold sq_sheet; (try rw [zn_nI (n := sa) (by omega)]); rw [if_neg c4, if_neg (show ¬ (8 : Int32) = 0 by decide), if_pos rfl, if_pos c23] <;> (try rfl)
              exact kret _ _ _ _ dX7_sheet_33 ⟨zu M 73 3 (M 73 3 + 1), N, rfl, by rw [hS], by rw [hS]; exact (hR).er (k := 3) (by decide), ((zHi.rf (M := M))).zu (by decide)⟩
        · exact absurd c21 (by decide)
      · by_cases b16 : b = 16
        · obtain rfl : b = 16 := b16
          refine z_iload_n (j := 2) o dX7_sheet_7 rfl ?_
          refine z_callSi (As := [.int 16]) (n := 1) (st := []) o dX7_sheet_8 (c_X4_isBits hB M N 16) zc_X7_259 (by decide) rfl rfl (Nat.le_of_ble_eq_true rfl) (fun r36 g37 p38 => ?_)
          obtain ⟨rfl, rfl⟩ := p38
          refine zo_rw (y := 1) (by decide) ?_
          refine z_ifne (tgt := 20) o dX7_sheet_11 (by decide) (fun c39 => ?_) (fun c39 => ?_)
          · refine z_iload_n (j := 2) o dX7_sheet_20 rfl ?_
            refine z_ifeq (tgt := 34) o dX7_sheet_21 (by decide) (fun c40 => ?_) (fun c40 => ?_)
            · exact absurd c40 (by decide)
            · refine z_iload_n (j := 3) o dX7_sheet_24 rfl ?_
              refine z_ifge (tgt := 34) o dX7_sheet_25 (by decide) (fun c41 => ?_) (fun c41 => ?_)
              · refine z_iload_n (j := 2) o dX7_sheet_34 rfl ?_
                refine z_ifeq (tgt := 50) o dX7_sheet_35 (by decide) (fun c42 => ?_) (fun c42 => ?_)
                · exact absurd c42 (by decide)
                · refine z_iload_n (j := 3) o dX7_sheet_38 rfl ?_
                  refine z_bipush (v := 24) o dX7_sheet_39 (by decide) ?_
                  refine z_icmple (tgt := 50) o dX7_sheet_41 (by decide) (fun c43 => ?_) (fun c43 => ?_)
                  · refine z_aload_n (j := 0) o dX7_sheet_50 rfl ?_
                    refine zo_get (i := 0) o hB dX7_sheet_51 zf_X7_38 rfl (by decide) (rfl) ?_
                    refine z_iload_n (j := 1) o dX7_sheet_54 rfl ?_
                    refine zo_aldS (i := 72) (j := sa) o hB dX7_sheet_55 rfl (show sa < 4 by omega) (by decide) ?_
                    refine z_iload_n (j := 2) o dX7_sheet_56 rfl ?_
                    refine z_iload_n (j := 2) o dX7_sheet_57 rfl ?_
                    refine z_ifne (tgt := 65) o dX7_sheet_58 (by decide) (fun c44 => ?_) (fun c44 => ?_)
                    · refine z_iload_n (j := 3) o dX7_sheet_65 rfl ?_
                      refine z_callVv (As := [.int 16, .int n]) (n := 2) (st := []) o dX7_sheet_66 (c_X4_begin hB M N (74 + 2 * sa) 16 n (zh_sheet (by omega))) zc_X7_262 (by decide) (i := 74 + 2 * sa) (by rw [hB]; exact zsh_lt (zh_sheet (by omega)) (by decide)) (zg_o (zh_sheet (by omega)) (by decide)) rfl rfl rfl (Nat.le_of_ble_eq_true rfl) (fun g46 p47 => ?_)
                      obtain ⟨F9, rfl, hF9⟩ := p47
                      have hRs : zRl (va_up (zu (zu M (74 + 2 * sa) 2 16) (74 + 2 * sa) 1 n) (74 + 2 * sa + 1) F9) N (va_up (va_up (va_up A 87 (upd (A 87) sa 16)) 88 (upd (A 88) sa n)) 89 (sp_zero (A 89) sa 24)) := hR.shb (by omega) hF9
                      refine z_iconst (v := 1) o dX7_sheet_69 (by decide) ?_
                      have hS : sq_sheet A (nI sa) 16 n = (1, va_up (va_up (va_up A 87 (upd (A 87) sa 16)) 88 (upd (A 88) sa n)) 89 (sp_zero (A 89) sa 24)) := by
                        unfold sq_sheet; (try rw [zn_nI (n := sa) (by omega)]); rw [if_neg c4, if_neg (show ¬ (16 : Int32) = 0 by decide), if_neg (show ¬ (16 : Int32) = 8 by decide), if_pos rfl, if_neg c41, if_neg c43] <;> (try rfl)
                      exact kret _ _ _ _ dX7_sheet_70 ⟨va_up (zu (zu M (74 + 2 * sa) 2 16) (74 + 2 * sa) 1 n) (74 + 2 * sa + 1) F9, N, rfl, by rw [hS], by rw [hS]; exact hRs, ((((zHi.rf (M := M)).zu (i := 74 + 2 * sa) (by omega)).zu (i := 74 + 2 * sa) (by omega)).va (i := 74 + 2 * sa + 1) (by omega))⟩
                    · exact absurd c44 (by decide)
                  · refine z_aload_n (j := 0) o dX7_sheet_44 rfl ?_
                    refine z_iconst (v := 1) o dX7_sheet_45 (by decide) ?_
                    refine z_callVi (As := [.int 1]) (n := 1) (st := []) o dX7_sheet_46 (c_X7_error hB M N 1 (by decide) (by decide)) zc_X7_54 (by decide) (i := 0) (by rw [hB]; exact zsh_lt rfl (by decide)) (zg_o rfl (by decide)) rfl rfl rfl (Nat.le_of_ble_eq_true rfl) (fun r48 g49 p50 => ?_)
                    obtain ⟨rfl, rfl⟩ := p50
                    have hS : sq_sheet A (nI sa) 16 n = ((zE 1), zEr A 1) := by
                      unfold sq_sheet; (try rw [zn_nI (n := sa) (by omega)]); rw [if_neg c4, if_neg (show ¬ (16 : Int32) = 0 by decide), if_neg (show ¬ (16 : Int32) = 8 by decide), if_pos rfl, if_neg c41, if_pos c43] <;> (try rfl)
                    exact kret _ _ _ _ dX7_sheet_49 ⟨zu M 73 1 (M 73 1 + 1), N, rfl, by rw [hS], by rw [hS]; exact (hR).er (k := 1) (by decide), ((zHi.rf (M := M))).zu (by decide)⟩
              · refine z_aload_n (j := 0) o dX7_sheet_28 rfl ?_
                refine z_iconst (v := 3) o dX7_sheet_29 (by decide) ?_
                refine z_callVi (As := [.int 3]) (n := 1) (st := []) o dX7_sheet_30 (c_X7_error hB M N 3 (by decide) (by decide)) zc_X7_54 (by decide) (i := 0) (by rw [hB]; exact zsh_lt rfl (by decide)) (zg_o rfl (by decide)) rfl rfl rfl (Nat.le_of_ble_eq_true rfl) (fun r51 g52 p53 => ?_)
                obtain ⟨rfl, rfl⟩ := p53
                have hS : sq_sheet A (nI sa) 16 n = ((zE 3), zEr A 3) := by
                  unfold sq_sheet; (try rw [zn_nI (n := sa) (by omega)]); rw [if_neg c4, if_neg (show ¬ (16 : Int32) = 0 by decide), if_neg (show ¬ (16 : Int32) = 8 by decide), if_pos rfl, if_pos c41] <;> (try rfl)
                exact kret _ _ _ _ dX7_sheet_33 ⟨zu M 73 3 (M 73 3 + 1), N, rfl, by rw [hS], by rw [hS]; exact (hR).er (k := 3) (by decide), ((zHi.rf (M := M))).zu (by decide)⟩
          · exact absurd c39 (by decide)
        · by_cases b32 : b = 32
          · obtain rfl : b = 32 := b32
            refine z_iload_n (j := 2) o dX7_sheet_7 rfl ?_
            refine z_callSi (As := [.int 32]) (n := 1) (st := []) o dX7_sheet_8 (c_X4_isBits hB M N 32) zc_X7_259 (by decide) rfl rfl (Nat.le_of_ble_eq_true rfl) (fun r54 g55 p56 => ?_)
            obtain ⟨rfl, rfl⟩ := p56
            refine zo_rw (y := 1) (by decide) ?_
            refine z_ifne (tgt := 20) o dX7_sheet_11 (by decide) (fun c57 => ?_) (fun c57 => ?_)
            · refine z_iload_n (j := 2) o dX7_sheet_20 rfl ?_
              refine z_ifeq (tgt := 34) o dX7_sheet_21 (by decide) (fun c58 => ?_) (fun c58 => ?_)
              · exact absurd c58 (by decide)
              · refine z_iload_n (j := 3) o dX7_sheet_24 rfl ?_
                refine z_ifge (tgt := 34) o dX7_sheet_25 (by decide) (fun c59 => ?_) (fun c59 => ?_)
                · refine z_iload_n (j := 2) o dX7_sheet_34 rfl ?_
                  refine z_ifeq (tgt := 50) o dX7_sheet_35 (by decide) (fun c60 => ?_) (fun c60 => ?_)
                  · exact absurd c60 (by decide)
                  · refine z_iload_n (j := 3) o dX7_sheet_38 rfl ?_
                    refine z_bipush (v := 24) o dX7_sheet_39 (by decide) ?_
                    refine z_icmple (tgt := 50) o dX7_sheet_41 (by decide) (fun c61 => ?_) (fun c61 => ?_)
                    · refine z_aload_n (j := 0) o dX7_sheet_50 rfl ?_
                      refine zo_get (i := 0) o hB dX7_sheet_51 zf_X7_38 rfl (by decide) (rfl) ?_
                      refine z_iload_n (j := 1) o dX7_sheet_54 rfl ?_
                      refine zo_aldS (i := 72) (j := sa) o hB dX7_sheet_55 rfl (show sa < 4 by omega) (by decide) ?_
                      refine z_iload_n (j := 2) o dX7_sheet_56 rfl ?_
                      refine z_iload_n (j := 2) o dX7_sheet_57 rfl ?_
                      refine z_ifne (tgt := 65) o dX7_sheet_58 (by decide) (fun c62 => ?_) (fun c62 => ?_)
                      · refine z_iload_n (j := 3) o dX7_sheet_65 rfl ?_
                        refine z_callVv (As := [.int 32, .int n]) (n := 2) (st := []) o dX7_sheet_66 (c_X4_begin hB M N (74 + 2 * sa) 32 n (zh_sheet (by omega))) zc_X7_262 (by decide) (i := 74 + 2 * sa) (by rw [hB]; exact zsh_lt (zh_sheet (by omega)) (by decide)) (zg_o (zh_sheet (by omega)) (by decide)) rfl rfl rfl (Nat.le_of_ble_eq_true rfl) (fun g64 p65 => ?_)
                        obtain ⟨F9, rfl, hF9⟩ := p65
                        have hRs : zRl (va_up (zu (zu M (74 + 2 * sa) 2 32) (74 + 2 * sa) 1 n) (74 + 2 * sa + 1) F9) N (va_up (va_up (va_up A 87 (upd (A 87) sa 32)) 88 (upd (A 88) sa n)) 89 (sp_zero (A 89) sa 24)) := hR.shb (by omega) hF9
                        refine z_iconst (v := 1) o dX7_sheet_69 (by decide) ?_
                        have hS : sq_sheet A (nI sa) 32 n = (1, va_up (va_up (va_up A 87 (upd (A 87) sa 32)) 88 (upd (A 88) sa n)) 89 (sp_zero (A 89) sa 24)) := by
                          unfold sq_sheet; (try rw [zn_nI (n := sa) (by omega)]); rw [if_neg c4, if_neg (show ¬ (32 : Int32) = 0 by decide), if_neg (show ¬ (32 : Int32) = 8 by decide), if_neg (show ¬ (32 : Int32) = 16 by decide), if_pos rfl, if_neg c59, if_neg c61] <;> (try rfl)
                        exact kret _ _ _ _ dX7_sheet_70 ⟨va_up (zu (zu M (74 + 2 * sa) 2 32) (74 + 2 * sa) 1 n) (74 + 2 * sa + 1) F9, N, rfl, by rw [hS], by rw [hS]; exact hRs, ((((zHi.rf (M := M)).zu (i := 74 + 2 * sa) (by omega)).zu (i := 74 + 2 * sa) (by omega)).va (i := 74 + 2 * sa + 1) (by omega))⟩
                      · exact absurd c62 (by decide)
                    · refine z_aload_n (j := 0) o dX7_sheet_44 rfl ?_
                      refine z_iconst (v := 1) o dX7_sheet_45 (by decide) ?_
                      refine z_callVi (As := [.int 1]) (n := 1) (st := []) o dX7_sheet_46 (c_X7_error hB M N 1 (by decide) (by decide)) zc_X7_54 (by decide) (i := 0) (by rw [hB]; exact zsh_lt rfl (by decide)) (zg_o rfl (by decide)) rfl rfl rfl (Nat.le_of_ble_eq_true rfl) (fun r66 g67 p68 => ?_)
                      obtain ⟨rfl, rfl⟩ := p68
                      have hS : sq_sheet A (nI sa) 32 n = ((zE 1), zEr A 1) := by
                        unfold sq_sheet; (try rw [zn_nI (n := sa) (by omega)]); rw [if_neg c4, if_neg (show ¬ (32 : Int32) = 0 by decide), if_neg (show ¬ (32 : Int32) = 8 by decide), if_neg (show ¬ (32 : Int32) = 16 by decide), if_pos rfl, if_neg c59, if_pos c61] <;> (try rfl)
                      exact kret _ _ _ _ dX7_sheet_49 ⟨zu M 73 1 (M 73 1 + 1), N, rfl, by rw [hS], by rw [hS]; exact (hR).er (k := 1) (by decide), ((zHi.rf (M := M))).zu (by decide)⟩
                · refine z_aload_n (j := 0) o dX7_sheet_28 rfl ?_
                  refine z_iconst (v := 3) o dX7_sheet_29 (by decide) ?_
                  refine z_callVi (As := [.int 3]) (n := 1) (st := []) o dX7_sheet_30 (c_X7_error hB M N 3 (by decide) (by decide)) zc_X7_54 (by decide) (i := 0) (by rw [hB]; exact zsh_lt rfl (by decide)) (zg_o rfl (by decide)) rfl rfl rfl (Nat.le_of_ble_eq_true rfl) (fun r69 g70 p71 => ?_)
                  obtain ⟨rfl, rfl⟩ := p71
                  have hS : sq_sheet A (nI sa) 32 n = ((zE 3), zEr A 3) := by
                    unfold sq_sheet; (try rw [zn_nI (n := sa) (by omega)]); rw [if_neg c4, if_neg (show ¬ (32 : Int32) = 0 by decide), if_neg (show ¬ (32 : Int32) = 8 by decide), if_neg (show ¬ (32 : Int32) = 16 by decide), if_pos rfl, if_pos c59] <;> (try rfl)
                  exact kret _ _ _ _ dX7_sheet_33 ⟨zu M 73 3 (M 73 3 + 1), N, rfl, by rw [hS], by rw [hS]; exact (hR).er (k := 3) (by decide), ((zHi.rf (M := M))).zu (by decide)⟩
            · exact absurd c57 (by decide)
          · refine z_iload_n (j := 2) o dX7_sheet_7 rfl ?_
            refine z_callSi (As := [.int b]) (n := 1) (st := []) o dX7_sheet_8 (c_X4_isBits hB M N b) zc_X7_259 (by decide) rfl rfl (Nat.le_of_ble_eq_true rfl) (fun r72 g73 p74 => ?_)
            obtain ⟨rfl, rfl⟩ := p74
            refine zo_rw (y := 0) (by unfold cg_bits; rw [if_neg b0, if_neg b8, if_neg b16, if_neg b32]) ?_
            refine z_ifne (tgt := 20) o dX7_sheet_11 (by decide) (fun c75 => ?_) (fun c75 => ?_)
            · exact absurd c75 (by decide)
            · refine z_aload_n (j := 0) o dX7_sheet_14 rfl ?_
              refine z_iconst (v := 1) o dX7_sheet_15 (by decide) ?_
              refine z_callVi (As := [.int 1]) (n := 1) (st := []) o dX7_sheet_16 (c_X7_error hB M N 1 (by decide) (by decide)) zc_X7_54 (by decide) (i := 0) (by rw [hB]; exact zsh_lt rfl (by decide)) (zg_o rfl (by decide)) rfl rfl rfl (Nat.le_of_ble_eq_true rfl) (fun r76 g77 p78 => ?_)
              obtain ⟨rfl, rfl⟩ := p78
              have hS : sq_sheet A (nI sa) b n = ((zE 1), zEr A 1) := by
                unfold sq_sheet; (try rw [zn_nI (n := sa) (by omega)]); rw [if_neg c4, if_neg b0, if_neg b8, if_neg b16, if_neg b32] <;> (try rfl)
              exact kret _ _ _ _ dX7_sheet_19 ⟨zu M 73 1 (M 73 1 + 1), N, rfl, by rw [hS], by rw [hS]; exact (hR).er (k := 1) (by decide), ((zHi.rf (M := M))).zu (by decide)⟩

set_option maxHeartbeats 4000000 in
set_option maxRecDepth 100000 in
theorem k_put {B : zB} (hB : znn B = 95) (M : zM) (N : zN) (A : zM) (s : Int32) (i : Int32) (v : Int32) (hR : zRl M N A) (hok : zOkAll (A 83)) (hsh : zShOk A) : zCi B (zg B M N) yX7_put cX7_put 5 (some .int) 1 [zref B 0, .int s, .int i, .int v] (fun r g' => ∃ (M1 : zM) (N1 : zN), g' = zg B M1 N1 ∧ r = (sq_put A s i v).1 ∧ zRl M1 N1 (sq_put A s i v).2 ∧ zHi M M1) := by
  refine zCi_of (by decide +kernel) (Nat.le_of_ble_eq_true rfl) .int rfl (fun _ _ _ => rfl) ?_
  intro X o kret
  show zW X B (zg B M N) 0 [(0, zref B 0), (1, .int s), (2, .int i), (3, .int v)] []
  obtain ⟨hnf, hnf4⟩ := ok_nf2 hok.1
  obtain ⟨hnc, hnc6⟩ := ok_nc2 hok.1
  obtain ⟨hnt, hnt60⟩ := ok_nt2 hok.1
  obtain ⟨hnw, hnw24⟩ := ok_nw2 hok.1
  have hF : ∀ i, i < 4 → zFn (9 + 2 * i) M (A 83) i := fun i hi => hR.1.2.1 i hi
  refine z_iload_n (j := 1) o dX7_put_0 rfl ?_
  refine z_callSi (As := [.int s]) (n := 1) (st := []) o dX7_put_1 (c_X7_isSheet hB M N s) zc_X7_235 (by decide) rfl rfl (Nat.le_of_ble_eq_true rfl) (fun r1 g2 p3 => ?_)
  obtain ⟨rfl, rfl⟩ := p3
  refine z_ifne (tgt := 13) o dX7_put_4 (by decide) (fun c4 => ?_) (fun c4 => ?_)
  · obtain ⟨sa, hsa, esa⟩ := zin_lit (n := 3) rfl (by decide) c4
    subst esa
    obtain ⟨hszsa, hs24sa⟩ := sh_n2 hsh (s := sa) (by omega)
    refine z_aload_n (j := 0) o dX7_put_13 rfl ?_
    refine zo_get (i := 0) o hB dX7_put_14 zf_X7_38 rfl (by decide) (rfl) ?_
    refine z_iload_n (j := 1) o dX7_put_17 rfl ?_
    refine zo_aldS (i := 72) (j := sa) o hB dX7_put_18 rfl (show sa < 4 by omega) (by decide) ?_
    refine z_astore (i := 4) (lv2 := [(4, zref B (74 + 2 * sa)), (0, zref B 0), (1, .int (nI sa)), (2, .int i), (3, .int v)]) o dX7_put_19 (by decide) rfl ?_
    refine z_aload (j := 0) o dX7_put_21 rfl ?_
    refine zo_get (i := 74 + 2 * sa) o hB dX7_put_23 zf_X7_238 (zh_sheet (by omega)) (by decide) (rfl) ?_
    refine zo_rw (y := A 87 sa) ((hR.2.2.2.2.2.2 sa (by omega)).2.1) ?_
    refine z_ifne (tgt := 35) o dX7_put_26 (by decide) (fun c5 => ?_) (fun c5 => ?_)
    · refine z_iload_n (j := 3) o dX7_put_35 rfl ?_
      refine z_iflt (tgt := 48) o dX7_put_36 (by decide) (fun c6 => ?_) (fun c6 => ?_)
      · refine z_aload_n (j := 1) o dX7_put_48 rfl ?_
        refine z_iconst (v := 1) o dX7_put_49 (by decide) ?_
        refine z_callVi (As := [.int 1]) (n := 1) (st := []) o dX7_put_50 (c_X7_error hB M N 1 (by decide) (by decide)) zc_X7_54 (by decide) (i := 0) (by rw [hB]; exact zsh_lt rfl (by decide)) (zg_o rfl (by decide)) rfl rfl rfl (Nat.le_of_ble_eq_true rfl) (fun r7 g8 p9 => ?_)
        obtain ⟨rfl, rfl⟩ := p9
        have hS : sq_put A (nI sa) i v = ((zE 1), zEr A 1) := by
          unfold sq_put; (try rw [zn_nI (n := sa) (by omega)]); rw [if_neg c4, if_neg c5, if_pos (zin_lo c6)] <;> (try rfl)
        exact kret _ _ _ _ dX7_put_53 ⟨zu M 73 1 (M 73 1 + 1), N, rfl, by rw [hS], by rw [hS]; exact (hR).er (k := 1) (by decide), ((zHi.rf (M := M))).zu (by decide)⟩
      · refine z_iload_n (j := 3) o dX7_put_39 rfl ?_
        refine z_aload (j := 0) o dX7_put_40 rfl ?_
        refine zo_get (i := 74 + 2 * sa) o hB dX7_put_42 zf_X7_263 (zh_sheet (by omega)) (by decide) (rfl) ?_
        refine zo_rw (y := nI (sh_n A sa)) ((hR.2.2.2.2.2.2 sa (by omega)).1.trans hszsa) ?_
        refine z_icmplt (tgt := 54) o dX7_put_45 (by decide) (fun c10 => ?_) (fun c10 => ?_)
        · have hz9 := cg_lt (f := i) (n := sh_n A sa) (by omega)
          rw [if_neg c6, if_pos c10, ← hszsa] at hz9
          have hz8 : ¬ zin i 0 (A 88 sa - 1) = 0 := by rw [← hz9]; decide
          have hz7 := hz8
          rw [hszsa] at hz7
          obtain ⟨ia, hia, eia⟩ := zin_nat (by omega) hz7
          subst eia
          refine z_aload (j := 0) o dX7_put_54 rfl ?_
          refine zo_get (i := 74 + 2 * sa) o hB dX7_put_56 zf_X7_266 (zh_sheet (by omega)) (by decide) (rfl) ?_
          refine z_iload_n (j := 3) o dX7_put_59 rfl ?_
          refine z_aload (j := 0) o dX7_put_60 rfl ?_
          refine z_iload_n (j := 4) o dX7_put_62 rfl ?_
          refine z_callVi (As := [.int v]) (n := 1) (st := [.int (nI ia), zref B (74 + 2 * sa + 1)]) o dX7_put_63 (c_X4_lowestBits hB M N (74 + 2 * sa) v (zh_sheet (by omega))) zc_X7_269 (by decide) (i := 74 + 2 * sa) (by rw [hB]; exact zsh_lt (zh_sheet (by omega)) (by decide)) (zg_o (zh_sheet (by omega)) (by decide)) rfl rfl rfl (Nat.le_of_ble_eq_true rfl) (fun r11 g12 p13 => ?_)
          obtain ⟨rfl, rfl⟩ := p13
          refine zo_rw (y := sp_low (A 87 sa) v) (by rw [(hR.2.2.2.2.2.2 sa (by omega)).2.1]) ?_
          refine zo_iast (i := 74 + 2 * sa + 1) (j := ia) o hB dX7_put_66 (zh_S (zh_sheet (by omega))) (by rw [(zh_Sn (zh_sheet (by omega)))]; omega) (by rw [(zh_Sn (zh_sheet (by omega)))]; decide) ?_
          have hRs : zRl (zu M (74 + 2 * sa + 1) ia (sp_low (A 87 sa) v)) N (zu A 89 (24 * sa + ia) (sp_low (A 87 sa) v)) := hR.shp (by omega) (by omega)
          refine z_iconst (v := 1) o dX7_put_67 (by decide) ?_
          have hS : sq_put A (nI sa) (nI ia) v = (1, zu A 89 (24 * sa + ia) (sp_low (A 87 sa) v)) := by
            unfold sq_put; (try rw [zn_nI (n := sa) (by omega)]); (try rw [zn_nI (n := ia) (by omega)]); rw [if_neg c4, if_neg c5, if_neg hz8] <;> (try rfl)
          exact kret _ _ _ _ dX7_put_68 ⟨zu M (74 + 2 * sa + 1) ia (sp_low (A 87 sa) v), N, rfl, by rw [hS], by rw [hS]; exact hRs, ((zHi.rf (M := M)).zu (i := 74 + 2 * sa + 1) (by omega))⟩
        · have hz9 := cg_lt (f := i) (n := sh_n A sa) (by omega)
          rw [if_neg c6, if_neg c10, ← hszsa] at hz9
          refine z_aload_n (j := 1) o dX7_put_48 rfl ?_
          refine z_iconst (v := 1) o dX7_put_49 (by decide) ?_
          refine z_callVi (As := [.int 1]) (n := 1) (st := []) o dX7_put_50 (c_X7_error hB M N 1 (by decide) (by decide)) zc_X7_54 (by decide) (i := 0) (by rw [hB]; exact zsh_lt rfl (by decide)) (zg_o rfl (by decide)) rfl rfl rfl (Nat.le_of_ble_eq_true rfl) (fun r14 g15 p16 => ?_)
          obtain ⟨rfl, rfl⟩ := p16
          have hS : sq_put A (nI sa) i v = ((zE 1), zEr A 1) := by
            unfold sq_put; (try rw [zn_nI (n := sa) (by omega)]); rw [if_neg c4, if_neg c5, if_pos hz9.symm] <;> (try rfl)
          exact kret _ _ _ _ dX7_put_53 ⟨zu M 73 1 (M 73 1 + 1), N, rfl, by rw [hS], by rw [hS]; exact (hR).er (k := 1) (by decide), ((zHi.rf (M := M))).zu (by decide)⟩
    · refine z_aload_n (j := 1) o dX7_put_29 rfl ?_
      refine z_iconst (v := 2) o dX7_put_30 (by decide) ?_
      refine z_callVi (As := [.int 2]) (n := 1) (st := []) o dX7_put_31 (c_X7_error hB M N 2 (by decide) (by decide)) zc_X7_54 (by decide) (i := 0) (by rw [hB]; exact zsh_lt rfl (by decide)) (zg_o rfl (by decide)) rfl rfl rfl (Nat.le_of_ble_eq_true rfl) (fun r17 g18 p19 => ?_)
      obtain ⟨rfl, rfl⟩ := p19
      have hS : sq_put A (nI sa) i v = ((zE 2), zEr A 2) := by
        unfold sq_put; (try rw [zn_nI (n := sa) (by omega)]); rw [if_neg c4, if_pos c5] <;> (try rfl)
      exact kret _ _ _ _ dX7_put_34 ⟨zu M 73 2 (M 73 2 + 1), N, rfl, by rw [hS], by rw [hS]; exact (hR).er (k := 2) (by decide), ((zHi.rf (M := M))).zu (by decide)⟩
  · refine z_aload_n (j := 0) o dX7_put_7 rfl ?_
    refine z_iconst (v := 1) o dX7_put_8 (by decide) ?_
    refine z_callVi (As := [.int 1]) (n := 1) (st := []) o dX7_put_9 (c_X7_error hB M N 1 (by decide) (by decide)) zc_X7_54 (by decide) (i := 0) (by rw [hB]; exact zsh_lt rfl (by decide)) (zg_o rfl (by decide)) rfl rfl rfl (Nat.le_of_ble_eq_true rfl) (fun r20 g21 p22 => ?_)
    obtain ⟨rfl, rfl⟩ := p22
    have hS : sq_put A s i v = ((zE 1), zEr A 1) := by
      unfold sq_put;  rw [if_pos c4] <;> (try rfl)
    exact kret _ _ _ _ dX7_put_12 ⟨zu M 73 1 (M 73 1 + 1), N, rfl, by rw [hS], by rw [hS]; exact (hR).er (k := 1) (by decide), ((zHi.rf (M := M))).zu (by decide)⟩

set_option maxHeartbeats 4000000 in
set_option maxRecDepth 100000 in
theorem k_sets {B : zB} (hB : znn B = 95) (M : zM) (N : zN) (A : zM) (f : Int32) (s : Int32) (hR : zRl M N A) (hok : zOkAll (A 83)) (hsh : zShOk A) : zCi B (zg B M N) yX7_sets cX7_sets 4 (some .int) 2 [zref B 0, .int f, .int s] (fun r g' => ∃ (M1 : zM) (N1 : zN), g' = zg B M1 N1 ∧ r = (sq_sets A f s).1 ∧ zRl M1 N1 (sq_sets A f s).2 ∧ zHi M M1) := by
  refine zCi_of (by decide +kernel) (Nat.le_of_ble_eq_true rfl) .int rfl (fun _ _ _ => rfl) ?_
  intro X o kret
  show zW X B (zg B M N) 0 [(0, zref B 0), (1, .int f), (2, .int s)] []
  obtain ⟨hnf, hnf4⟩ := ok_nf2 hok.1
  obtain ⟨hnc, hnc6⟩ := ok_nc2 hok.1
  obtain ⟨hnt, hnt60⟩ := ok_nt2 hok.1
  obtain ⟨hnw, hnw24⟩ := ok_nw2 hok.1
  have hF : ∀ i, i < 4 → zFn (9 + 2 * i) M (A 83) i := fun i hi => hR.1.2.1 i hi
  refine z_aload_n (j := 0) o dX7_sets_0 rfl ?_
  refine z_iload_n (j := 1) o dX7_sets_1 rfl ?_
  refine z_callVi (As := [.int f]) (n := 1) (st := []) o dX7_sets_2 (c_X7_isFence hB M N A f hR hok.1) zc_X7_72 (by decide) (i := 0) (by rw [hB]; exact zsh_lt rfl (by decide)) (zg_o rfl (by decide)) rfl rfl rfl (Nat.le_of_ble_eq_true rfl) (fun r1 g2 p3 => ?_)
  obtain ⟨rfl, rfl⟩ := p3
  refine z_ifeq (tgt := 15) o dX7_sets_5 (by decide) (fun c4 => ?_) (fun c4 => ?_)
  · refine z_aload_n (j := 0) o dX7_sets_15 rfl ?_
    refine z_iconst (v := 1) o dX7_sets_16 (by decide) ?_
    refine z_callVi (As := [.int 1]) (n := 1) (st := []) o dX7_sets_17 (c_X7_error hB M N 1 (by decide) (by decide)) zc_X7_54 (by decide) (i := 0) (by rw [hB]; exact zsh_lt rfl (by decide)) (zg_o rfl (by decide)) rfl rfl rfl (Nat.le_of_ble_eq_true rfl) (fun r5 g6 p7 => ?_)
    obtain ⟨rfl, rfl⟩ := p7
    have hS : sq_sets A f s = ((zE 1), zEr A 1) := by
      unfold sq_sets;  rw [if_pos c4] <;> (try rfl)
    exact kret _ _ _ _ dX7_sets_20 ⟨zu M 73 1 (M 73 1 + 1), N, rfl, by rw [hS], by rw [hS]; exact (hR).er (k := 1) (by decide), ((zHi.rf (M := M))).zu (by decide)⟩
  · have hzf := c4
    rw [hnf] at hzf
    obtain ⟨fa, hfa, efa⟩ := zin_nat (by omega) hzf
    subst efa
    obtain ⟨hnpfa, hnp8⟩ := ok_np2 hok.1 (i := fa) (by omega)
    refine z_iload_n (j := 2) o dX7_sets_8 rfl ?_
    refine z_callSi (As := [.int s]) (n := 1) (st := []) o dX7_sets_9 (c_X7_isSheet hB M N s) zc_X7_235 (by decide) rfl rfl (Nat.le_of_ble_eq_true rfl) (fun r8 g9 p10 => ?_)
    obtain ⟨rfl, rfl⟩ := p10
    refine z_ifne (tgt := 21) o dX7_sets_12 (by decide) (fun c11 => ?_) (fun c11 => ?_)
    · obtain ⟨sa, hsa, esa⟩ := zin_lit (n := 3) rfl (by decide) c11
      subst esa
      obtain ⟨hszsa, hs24sa⟩ := sh_n2 hsh (s := sa) (by omega)
      refine z_aload_n (j := 0) o dX7_sets_21 rfl ?_
      refine zo_get (i := 0) o hB dX7_sets_22 zf_X7_38 rfl (by decide) (rfl) ?_
      refine z_iload_n (j := 2) o dX7_sets_25 rfl ?_
      refine zo_aldS (i := 72) (j := sa) o hB dX7_sets_26 rfl (show sa < 4 by omega) (by decide) ?_
      refine z_astore_n (i := 3) (lv2 := [(3, zref B (74 + 2 * sa)), (0, zref B 0), (1, .int (nI fa)), (2, .int (nI sa))]) o dX7_sets_27 rfl (by decide) rfl ?_
      refine z_aload_n (j := 0) o dX7_sets_28 rfl ?_
      refine zo_get (i := 74 + 2 * sa) o hB dX7_sets_29 zf_X7_238 (zh_sheet (by omega)) (by decide) (rfl) ?_
      refine zo_rw (y := A 87 sa) ((hR.2.2.2.2.2.2 sa (by omega)).2.1) ?_
      refine z_ifne (tgt := 41) o dX7_sets_32 (by decide) (fun c12 => ?_) (fun c12 => ?_)
      · refine z_aload_n (j := 1) o dX7_sets_41 rfl ?_
        refine zo_get (i := 0) o hB dX7_sets_42 zf_X7_10 rfl (by decide) (rfl) ?_
        refine zo_get (i := 1) o hB dX7_sets_45 zf_X7_62 rfl (by decide) (rfl) ?_
        refine z_iload_n (j := 2) o dX7_sets_48 rfl ?_
        refine zo_aldF (i := 2) (j := fa) o hB dX7_sets_49 rfl (show fa < 4 by omega) (by decide) ?_
        refine z_aload_n (j := 0) o dX7_sets_50 rfl ?_
        refine zo_get (i := 74 + 2 * sa) o hB dX7_sets_51 zf_X7_266 (zh_sheet (by omega)) (by decide) (rfl) ?_
        refine z_aload_n (j := 0) o dX7_sets_54 rfl ?_
        refine zo_get (i := 74 + 2 * sa) o hB dX7_sets_55 zf_X7_263 (zh_sheet (by omega)) (by decide) (rfl) ?_
        refine zo_rw (y := nI (sh_n A sa)) ((hR.2.2.2.2.2.2 sa (by omega)).1.trans hszsa) ?_
        refine z_callVv (As := [zref B (74 + 2 * sa + 1), .int (nI (sh_n A sa))]) (n := 2) (st := []) o dX7_sets_58 (c_X0_standAt hB M N (9 + 2 * fa) fa (74 + 2 * sa + 1) (sh_n A sa) sa (A 89) (A 83) ((zh_R (r := 1) rfl).2.2.2.2.2.2.2.1 fa (by omega)) (zh_S (zh_sheet (by omega))) (zh_Sn (zh_sheet (by omega))) hs24sa (by omega) (by omega) (fun j hj => by have := (hR.2.2.2.2.2.2 sa (by omega)).2.2 j hj; rw [show 75 + 2 * sa = 74 + 2 * sa + 1 by omega] at this; exact this) (hF fa (by omega)).2.2.2.2.2) zc_X7_281 (by decide) (i := 9 + 2 * fa) (by rw [hB]; exact zsh_lt ((zh_R (r := 1) rfl).2.2.2.2.2.2.2.1 fa (by omega)) (by decide)) (zg_o ((zh_R (r := 1) rfl).2.2.2.2.2.2.2.1 fa (by omega)) (by decide)) rfl rfl rfl (Nat.le_of_ble_eq_true rfl) (fun g14 p15 => ?_)
        obtain ⟨M9, kq, ρ9, rfl, hst, hm9, hk9, ho9, hc9⟩ := p15
        have hne : ∀ j, (∀ p, p < 8 → j ≠ 6 + 13 * fa + (5 + p)) → ρ9 j = A 83 j := fun j hj => by
          have := st_ne (C := A 89) (s := sa) (f := fa) (j := j) (min (sh_n A sa) 8) 0 (A 83) (by omega) hj
          rw [hst] at this; exact this
        have hg9 : zRg 1 M9 N (upd ρ9 (6 + 13 * fa + 3) (nI kq)) := by
          refine hR.1.fen (i := fa) (by omega) (fun j q w => hm9 j (by omega) (by omega)) ?_ (fun k2 h2 => by rw [upd_ne (h2 3 (by omega)), hne k2 (fun p hp => h2 (5 + p) (by omega))])
          obtain ⟨b1, b2, b3, b4, b5, b6⟩ := hF fa (by omega)
          refine ⟨?_, ?_, ?_, ?_, ?_, fun p hp => ?_⟩
          · rw [upd_self]; exact hk9
          · rw [upd_ne (by omega), hne _ (fun p hp => by omega)]; exact (ho9 2 (by decide)).trans b2
          · rw [upd_ne (by omega), hne _ (fun p hp => by omega)]; exact (ho9 3 (by decide)).trans b3
          · rw [upd_ne (by omega), hne _ (fun p hp => by omega)]; exact (ho9 4 (by decide)).trans b4
          · rw [upd_ne (by omega), hne _ (fun p hp => by omega)]; exact (ho9 5 (by decide)).trans b5
          · rw [upd_ne (by omega)]; exact hc9 p hp
        refine z_aload_n (j := 1) o dX7_sets_61 rfl ?_
        refine zo_get (i := 0) o hB dX7_sets_62 zf_X7_10 rfl (by decide) (rfl) ?_
        refine zo_get (i := 1) o hB dX7_sets_65 zf_X7_62 rfl (by decide) (rfl) ?_
        refine z_iload_n (j := 2) o dX7_sets_68 rfl ?_
        refine zo_aldF (i := 2) (j := fa) o hB dX7_sets_69 rfl (show fa < 4 by omega) (by decide) ?_
        refine zo_get (i := 9 + 2 * fa) o hB dX7_sets_70 zf_X7_80 ((zh_R (r := 1) rfl).2.2.2.2.2.2.2.1 fa (by omega)) (by decide) (rfl) ?_
        refine zo_rw (y := nI kq) (hk9) ?_
        have hS : sq_sets A (nI fa) (nI sa) = ((nI kq), va_up A 83 (upd ρ9 (6 + 13 * fa + 3) (nI kq))) := by
          unfold sq_sets; (try rw [zn_nI (n := fa) (by omega)]); (try rw [zn_nI (n := sa) (by omega)]); rw [if_neg c4, if_neg c11, if_neg c12, hst] <;> (try rfl)
        exact kret _ _ _ _ dX7_sets_73 ⟨M9, N, rfl, by rw [hS], by rw [hS]; exact hR.now hg9 (fun j hj => (show zFr 1 M M9 from fun j hj => hm9 j (by omega) (by omega)) j (by omega)) (fun j hj => (fun j _ => rfl : zFrN 1 N N) j (by omega)), (zHi.rf (M := M)).fr (show zFr 1 M M9 from fun j hj => hm9 j (by omega) (by omega)) (by decide)⟩
      · refine z_aload_n (j := 1) o dX7_sets_35 rfl ?_
        refine z_iconst (v := 2) o dX7_sets_36 (by decide) ?_
        refine z_callVi (As := [.int 2]) (n := 1) (st := []) o dX7_sets_37 (c_X7_error hB M N 2 (by decide) (by decide)) zc_X7_54 (by decide) (i := 0) (by rw [hB]; exact zsh_lt rfl (by decide)) (zg_o rfl (by decide)) rfl rfl rfl (Nat.le_of_ble_eq_true rfl) (fun r16 g17 p18 => ?_)
        obtain ⟨rfl, rfl⟩ := p18
        have hS : sq_sets A (nI fa) (nI sa) = ((zE 2), zEr A 2) := by
          unfold sq_sets; (try rw [zn_nI (n := fa) (by omega)]); (try rw [zn_nI (n := sa) (by omega)]); rw [if_neg c4, if_neg c11, if_pos c12] <;> (try rfl)
        exact kret _ _ _ _ dX7_sets_40 ⟨zu M 73 2 (M 73 2 + 1), N, rfl, by rw [hS], by rw [hS]; exact (hR).er (k := 2) (by decide), ((zHi.rf (M := M))).zu (by decide)⟩
    · refine z_aload_n (j := 0) o dX7_sets_15 rfl ?_
      refine z_iconst (v := 1) o dX7_sets_16 (by decide) ?_
      refine z_callVi (As := [.int 1]) (n := 1) (st := []) o dX7_sets_17 (c_X7_error hB M N 1 (by decide) (by decide)) zc_X7_54 (by decide) (i := 0) (by rw [hB]; exact zsh_lt rfl (by decide)) (zg_o rfl (by decide)) rfl rfl rfl (Nat.le_of_ble_eq_true rfl) (fun r19 g20 p21 => ?_)
      obtain ⟨rfl, rfl⟩ := p21
      have hS : sq_sets A (nI fa) s = ((zE 1), zEr A 1) := by
        unfold sq_sets; (try rw [zn_nI (n := fa) (by omega)]); rw [if_neg c4, if_pos c11] <;> (try rfl)
      exact kret _ _ _ _ dX7_sets_20 ⟨zu M 73 1 (M 73 1 + 1), N, rfl, by rw [hS], by rw [hS]; exact (hR).er (k := 1) (by decide), ((zHi.rf (M := M))).zu (by decide)⟩

set_option maxHeartbeats 4000000 in
set_option maxRecDepth 100000 in
theorem k_judge {B : zB} (hB : znn B = 95) (M : zM) (N : zN) (A : zM) (s : Int32) (hR : zRl M N A) (hok : zOkAll (A 83)) (hsh : zShOk A) : zCi B (zg B M N) yX7_judge cX7_judge 4 (some .int) 5 [zref B 0, .int s] (fun r g' => ∃ (M1 : zM) (N1 : zN), g' = zg B M1 N1 ∧ r = (sq_judge A s).1 ∧ zRl M1 N1 (sq_judge A s).2 ∧ zHi M M1) := by
  refine zCi_of (by decide +kernel) (Nat.le_of_ble_eq_true rfl) .int rfl (fun _ _ _ => rfl) ?_
  intro X o kret
  show zW X B (zg B M N) 0 [(0, zref B 0), (1, .int s)] []
  obtain ⟨hnf, hnf4⟩ := ok_nf2 hok.1
  obtain ⟨hnc, hnc6⟩ := ok_nc2 hok.1
  obtain ⟨hnt, hnt60⟩ := ok_nt2 hok.1
  obtain ⟨hnw, hnw24⟩ := ok_nw2 hok.1
  have hF : ∀ i, i < 4 → zFn (9 + 2 * i) M (A 83) i := fun i hi => hR.1.2.1 i hi
  refine z_iload_n (j := 1) o dX7_judge_0 rfl ?_
  refine z_callSi (As := [.int s]) (n := 1) (st := []) o dX7_judge_1 (c_X7_isSheet hB M N s) zc_X7_235 (by decide) rfl rfl (Nat.le_of_ble_eq_true rfl) (fun r1 g2 p3 => ?_)
  obtain ⟨rfl, rfl⟩ := p3
  refine z_ifne (tgt := 13) o dX7_judge_4 (by decide) (fun c4 => ?_) (fun c4 => ?_)
  · obtain ⟨sa, hsa, esa⟩ := zin_lit (n := 3) rfl (by decide) c4
    subst esa
    obtain ⟨hszsa, hs24sa⟩ := sh_n2 hsh (s := sa) (by omega)
    refine z_aload_n (j := 0) o dX7_judge_13 rfl ?_
    refine zo_get (i := 0) o hB dX7_judge_14 zf_X7_38 rfl (by decide) (rfl) ?_
    refine z_iload_n (j := 1) o dX7_judge_17 rfl ?_
    refine zo_aldS (i := 72) (j := sa) o hB dX7_judge_18 rfl (show sa < 4 by omega) (by decide) ?_
    refine z_astore_n (i := 2) (lv2 := [(2, zref B (74 + 2 * sa)), (0, zref B 0), (1, .int (nI sa))]) o dX7_judge_19 rfl (by decide) rfl ?_
    refine z_aload_n (j := 0) o dX7_judge_20 rfl ?_
    refine zo_get (i := 74 + 2 * sa) o hB dX7_judge_21 zf_X7_238 (zh_sheet (by omega)) (by decide) (rfl) ?_
    refine zo_rw (y := A 87 sa) ((hR.2.2.2.2.2.2 sa (by omega)).2.1) ?_
    refine z_ifne (tgt := 33) o dX7_judge_24 (by decide) (fun c5 => ?_) (fun c5 => ?_)
    · refine z_aload_n (j := 1) o dX7_judge_33 rfl ?_
      refine zo_get (i := 0) o hB dX7_judge_34 zf_X7_10 rfl (by decide) (rfl) ?_
      refine z_callVv (As := []) (n := 0) (st := []) o dX7_judge_37 (c_X3_lookInside hB M N 1 (A 83) rfl hok.1 hR.1) zc_X7_155 (by decide) (i := 1) (by rw [hB]; exact zsh_lt rfl (by decide)) (zg_o rfl (by decide)) rfl rfl rfl (Nat.le_of_ble_eq_true rfl) (fun g7 p8 => ?_)
      obtain ⟨N9, rfl, fnN9, snN9⟩ := p8
      have hRN9 : zRl M N9 A := hR.sc (hR.1.sn (N1 := N9) (fnN9 1 (by decide))) (fun _ _ => rfl) (fun j hj => fnN9 j (by omega)) (fun u hu => (hR.2.2.1 u hu).2)
      refine z_iconst (v := 0) o dX7_judge_40 (by decide) ?_
      refine z_istore_n (i := 3) (lv2 := [(3, .int 0), (2, zref B (74 + 2 * sa)), (0, zref B 0), (1, .int (nI sa))]) o dX7_judge_41 rfl (by decide) rfl ?_
      have LOOP : ∀ nq kq : Nat, kq + nq = min (sh_n A sa) (sp_nc (A 83)) → sp_jud (A 89) (A 83) sa (min (sh_n A sa) (sp_nc (A 83))) 0 = sp_jud (A 89) (A 83) sa nq kq → zW X B (zg B M N9) 42 [(3, .int (nI kq)), (2, zref B (74 + 2 * sa)), (0, zref B 0), (1, .int (nI sa))] [] := by
        intro nq
        induction nq with
        | zero =>
          intro kq hkq hF9
          have hF9 : sp_jud (A 89) (A 83) sa (min (sh_n A sa) (sp_nc (A 83))) 0 = kq := hF9
          refine z_iload_n (j := 0) o dX7_judge_42 rfl ?_
          refine z_aload_n (j := 1) o dX7_judge_43 rfl ?_
          refine zo_get (i := 74 + 2 * sa) o hB dX7_judge_44 zf_X7_263 (zh_sheet (by omega)) (by decide) (rfl) ?_
          refine zo_rw (y := nI (sh_n A sa)) ((hR.2.2.2.2.2.2 sa (by omega)).1.trans hszsa) ?_
          refine z_icmpge (tgt := 92) o dX7_judge_47 (by decide) (fun c10 => ?_) (fun c10 => ?_)
          · refine z_iload_n (j := 0) o dX7_judge_92 rfl ?_
            have hS : sq_judge A (nI sa) = ((nI kq), A) := by
              unfold sq_judge; (try rw [zn_nI (n := sa) (by omega)]); rw [if_neg c4, if_neg c5, hF9] <;> (try rfl)
            exact kret _ _ _ _ dX7_judge_93 ⟨M, N9, rfl, by rw [hS], by rw [hS]; exact hRN9, (zHi.rf (M := M))⟩
          · have hk1 : kq < sh_n A sa := (nI_ltI (by omega) (by omega)).mp c10
            refine z_iload_n (j := 0) o dX7_judge_50 rfl ?_
            refine z_aload_n (j := 2) o dX7_judge_51 rfl ?_
            refine zo_get (i := 0) o hB dX7_judge_52 zf_X7_10 rfl (by decide) (rfl) ?_
            refine zo_get (i := 1) o hB dX7_judge_55 zf_X7_143 rfl (by decide) (rfl) ?_
            refine zo_rw (y := nI (sp_nc (A 83))) (hR.1.1.2.1.trans hnc) ?_
            refine z_icmpge (tgt := 92) o dX7_judge_58 (by decide) (fun c11 => ?_) (fun c11 => ?_)
            · refine z_iload_n (j := 0) o dX7_judge_92 rfl ?_
              have hS : sq_judge A (nI sa) = ((nI kq), A) := by
                unfold sq_judge; (try rw [zn_nI (n := sa) (by omega)]); rw [if_neg c4, if_neg c5, hF9] <;> (try rfl)
              exact kret _ _ _ _ dX7_judge_93 ⟨M, N9, rfl, by rw [hS], by rw [hS]; exact hRN9, (zHi.rf (M := M))⟩
            · exact absurd c11 (nI_nlt (a := kq) (b := sp_nc (A 83)) (by omega) (by omega))
        | succ nq ih =>
          intro kq hkq hF9
          have hlt1 : kq < sh_n A sa := by omega
          have hlt2 : kq < sp_nc (A 83) := by omega
          obtain ⟨cq, hcq, ecq⟩ := hok.1 _ _ (zbd_c (i := kq) (by omega))
          have hF9 : sp_jud (A 89) (A 83) sa (min (sh_n A sa) (sp_nc (A 83))) 0 = (if A 89 (24 * sa + kq) = sp_brand (A 83) (zn (A 83 (58 + 2 * kq))) then sp_jud (A 89) (A 83) sa nq (kq + 1) else kq) := hF9
          rw [show zn (A 83 (58 + 2 * kq)) = cq from by rw [ecq, zn_nI (by omega)]] at hF9
          refine z_iload_n (j := 0) o dX7_judge_42 rfl ?_
          refine z_aload_n (j := 1) o dX7_judge_43 rfl ?_
          refine zo_get (i := 74 + 2 * sa) o hB dX7_judge_44 zf_X7_263 (zh_sheet (by omega)) (by decide) (rfl) ?_
          refine zo_rw (y := nI (sh_n A sa)) ((hR.2.2.2.2.2.2 sa (by omega)).1.trans hszsa) ?_
          refine z_icmpge (tgt := 92) o dX7_judge_47 (by decide) (fun c12 => ?_) (fun c12 => ?_)
          · exact absurd (nI_lt (a := kq) (b := sh_n A sa) (by omega) (by omega)) c12
          · refine z_iload_n (j := 0) o dX7_judge_50 rfl ?_
            refine z_aload_n (j := 2) o dX7_judge_51 rfl ?_
            refine zo_get (i := 0) o hB dX7_judge_52 zf_X7_10 rfl (by decide) (rfl) ?_
            refine zo_get (i := 1) o hB dX7_judge_55 zf_X7_143 rfl (by decide) (rfl) ?_
            refine zo_rw (y := nI (sp_nc (A 83))) (hR.1.1.2.1.trans hnc) ?_
            refine z_icmpge (tgt := 92) o dX7_judge_58 (by decide) (fun c13 => ?_) (fun c13 => ?_)
            · exact absurd (nI_lt (a := kq) (b := sp_nc (A 83)) (by omega) (by omega)) c13
            · refine z_aload_n (j := 1) o dX7_judge_61 rfl ?_
              refine zo_get (i := 74 + 2 * sa) o hB dX7_judge_62 zf_X7_266 (zh_sheet (by omega)) (by decide) (rfl) ?_
              refine z_iload_n (j := 0) o dX7_judge_65 rfl ?_
              refine zo_iald (i := 74 + 2 * sa + 1) (j := kq) o hB dX7_judge_66 (zh_S (zh_sheet (by omega))) (by rw [(zh_Sn (zh_sheet (by omega)))]; omega) (by rw [(zh_Sn (zh_sheet (by omega)))]; decide) ?_
              refine zo_rw (y := A 89 (24 * sa + kq)) (by have := (hR.2.2.2.2.2.2 sa (by omega)).2.2 kq (by omega); rw [show 75 + 2 * sa = 74 + 2 * sa + 1 by omega] at this; exact this) ?_
              refine z_aload_n (j := 2) o dX7_judge_67 rfl ?_
              refine zo_get (i := 0) o hB dX7_judge_68 zf_X7_10 rfl (by decide) (rfl) ?_
              refine z_aload_n (j := 2) o dX7_judge_71 rfl ?_
              refine zo_get (i := 0) o hB dX7_judge_72 zf_X7_10 rfl (by decide) (rfl) ?_
              refine zo_get (i := 1) o hB dX7_judge_75 zf_X7_146 rfl (by decide) (rfl) ?_
              refine z_iload_n (j := 0) o dX7_judge_78 rfl ?_
              refine zo_iald (i := 3) (j := kq) o hB dX7_judge_79 rfl (show kq < 6 by omega) (by decide) ?_
              refine zo_rw (y := nI cq) (((hR.1.2.2.1 kq (by omega)).1).trans ecq) ?_
              refine z_callVi (As := [.int (nI cq)]) (n := 1) (st := [.int (A 89 (24 * sa + kq))]) o dX7_judge_80 (c_X3_brandSeen hB M N9 1 (A 83) cq rfl hok.1 hRN9.1 (by omega) snN9) zc_X7_158 (by decide) (i := 1) (by rw [hB]; exact zsh_lt rfl (by decide)) (zg_o rfl (by decide)) rfl rfl rfl (Nat.le_of_ble_eq_true rfl) (fun r14 g15 p16 => ?_)
              obtain ⟨rfl, rfl⟩ := p16
              refine z_icmpne (tgt := 92) o dX7_judge_83 (by decide) (fun c17 => ?_) (fun c17 => ?_)
              · refine z_iload_n (j := 0) o dX7_judge_92 rfl ?_
                have hS : sq_judge A (nI sa) = ((nI kq), A) := by
                  unfold sq_judge; (try rw [zn_nI (n := sa) (by omega)]); rw [if_neg c4, if_neg c5, hF9, if_neg c17] <;> (try rfl)
                exact kret _ _ _ _ dX7_judge_93 ⟨M, N9, rfl, by rw [hS], by rw [hS]; exact hRN9, (zHi.rf (M := M))⟩
              · refine z_iinc (j := 0) (v := nI (kq + 1)) (lv2 := [(3, .int (nI (kq + 1))), (2, zref B (74 + 2 * sa)), (0, zref B 0), (1, .int (nI sa))]) o dX7_judge_86 rfl (zn_ofInt _) (by decide) rfl ?_
                refine z_goto (tgt := 42) o dX7_judge_89 (by decide) ?_
                refine zo_lv [0, 1, 2, 3] rfl ?_
                exact ih (kq + 1) (by omega) (by rw [hF9, if_pos c17])
      refine zo_lv [0, 1, 2, 3] rfl ?_
      exact LOOP (min (sh_n A sa) (sp_nc (A 83))) 0 (by omega) rfl
    · refine z_aload_n (j := 1) o dX7_judge_27 rfl ?_
      refine z_iconst (v := 2) o dX7_judge_28 (by decide) ?_
      refine z_callVi (As := [.int 2]) (n := 1) (st := []) o dX7_judge_29 (c_X7_error hB M N 2 (by decide) (by decide)) zc_X7_54 (by decide) (i := 0) (by rw [hB]; exact zsh_lt rfl (by decide)) (zg_o rfl (by decide)) rfl rfl rfl (Nat.le_of_ble_eq_true rfl) (fun r18 g19 p20 => ?_)
      obtain ⟨rfl, rfl⟩ := p20
      have hS : sq_judge A (nI sa) = ((zE 2), zEr A 2) := by
        unfold sq_judge; (try rw [zn_nI (n := sa) (by omega)]); rw [if_neg c4, if_pos c5] <;> (try rfl)
      exact kret _ _ _ _ dX7_judge_32 ⟨zu M 73 2 (M 73 2 + 1), N, rfl, by rw [hS], by rw [hS]; exact (hR).er (k := 2) (by decide), ((zHi.rf (M := M))).zu (by decide)⟩
  · refine z_aload_n (j := 0) o dX7_judge_7 rfl ?_
    refine z_iconst (v := 1) o dX7_judge_8 (by decide) ?_
    refine z_callVi (As := [.int 1]) (n := 1) (st := []) o dX7_judge_9 (c_X7_error hB M N 1 (by decide) (by decide)) zc_X7_54 (by decide) (i := 0) (by rw [hB]; exact zsh_lt rfl (by decide)) (zg_o rfl (by decide)) rfl rfl rfl (Nat.le_of_ble_eq_true rfl) (fun r21 g22 p23 => ?_)
    obtain ⟨rfl, rfl⟩ := p23
    have hS : sq_judge A s = ((zE 1), zEr A 1) := by
      unfold sq_judge;  rw [if_pos c4] <;> (try rfl)
    exact kret _ _ _ _ dX7_judge_12 ⟨zu M 73 1 (M 73 1 + 1), N, rfl, by rw [hS], by rw [hS]; exact (hR).er (k := 1) (by decide), ((zHi.rf (M := M))).zu (by decide)⟩

