/-! the class: its calls (9) -/
theorem nst_bad {n i j a b : Int32} (h : (n < 0 ∨ i < 0 ∨ a < n) ∨ (n < 0 ∨ j < 0 ∨ b < n)) : (if n < 0 then (-1000000001 : Int32) else if i < 0 then -1000000001 else if j < 0 then -1000000001 else if a < n then -1000000001 else if b < n then -1000000001 else 0) = -1000000001 := by
  by_cases h1 : n < 0
  · rw [if_pos h1]
  · by_cases h2 : i < 0
    · rw [if_neg h1, if_pos h2]
    · by_cases h3 : j < 0
      · rw [if_neg h1, if_neg h2, if_pos h3]
      · by_cases h4 : a < n
        · rw [if_neg h1, if_neg h2, if_neg h3, if_pos h4]
        · by_cases h5 : b < n
          · rw [if_neg h1, if_neg h2, if_neg h3, if_neg h4, if_pos h5]
          · exfalso
            rcases h with (q | q | q) | (q | q | q)
            · exact h1 q
            · exact h2 q
            · exact h4 q
            · exact h1 q
            · exact h3 q
            · exact h5 q
theorem nst_ok {n i j a b : Int32} (h : ¬ (n < 0 ∨ i < 0 ∨ a < n)) (h2 : ¬ (n < 0 ∨ j < 0 ∨ b < n)) : (if n < 0 then (-1000000001 : Int32) else if i < 0 then -1000000001 else if j < 0 then -1000000001 else if a < n then -1000000001 else if b < n then -1000000001 else 0) = 0 := by
  rw [if_neg (fun q => h (Or.inl q)), if_neg (fun q => h (Or.inr (Or.inl q))), if_neg (fun q => h2 (Or.inr (Or.inl q))), if_neg (fun q => h (Or.inr (Or.inr q))), if_neg (fun q => h2 (Or.inr (Or.inr q)))]
set_option maxHeartbeats 4000000 in
set_option maxRecDepth 100000 in
theorem k_move {B : zB} (hB : znn B = 95) (M : zM) (N : zN) (A : zM) (s : Int32) (i : Int32) (u : Int32) (j : Int32) (n : Int32) (hR : zRl M N A) (hok : zOkAll (A 83)) (hsh : zShOk A) : zCi B (zg B M N) yX7_move cX7_move 8 (some .int) 1 [zref B 0, .int s, .int i, .int u, .int j, .int n] (fun r g' => ∃ (M1 : zM) (N1 : zN), g' = zg B M1 N1 ∧ r = (sq_move A s i u j n).1 ∧ zRl M1 N1 (sq_move A s i u j n).2 ∧ zHi M M1) := by
  refine zCi_of (by decide +kernel) (Nat.le_of_ble_eq_true rfl) .int rfl (fun _ _ _ => rfl) ?_
  intro X o kret
  show zW X B (zg B M N) 0 [(0, zref B 0), (1, .int s), (2, .int i), (3, .int u), (4, .int j), (5, .int n)] []
  obtain ⟨hnf, hnf4⟩ := ok_nf2 hok.1
  obtain ⟨hnc, hnc6⟩ := ok_nc2 hok.1
  obtain ⟨hnt, hnt60⟩ := ok_nt2 hok.1
  obtain ⟨hnw, hnw24⟩ := ok_nw2 hok.1
  have hF : ∀ i, i < 4 → zFn (9 + 2 * i) M (A 83) i := fun i hi => hR.1.2.1 i hi
  refine z_iload_n (j := 1) o dX7_move_0 rfl ?_
  refine z_callSi (As := [.int s]) (n := 1) (st := []) o dX7_move_1 (c_X7_isSheet hB M N s) zc_X7_235 (by decide) rfl rfl (Nat.le_of_ble_eq_true rfl) (fun r1 g2 p3 => ?_)
  obtain ⟨rfl, rfl⟩ := p3
  refine z_ifeq (tgt := 14) o dX7_move_4 (by decide) (fun c4 => ?_) (fun c4 => ?_)
  · refine z_aload_n (j := 0) o dX7_move_14 rfl ?_
    refine z_iconst (v := 1) o dX7_move_15 (by decide) ?_
    refine z_callVi (As := [.int 1]) (n := 1) (st := []) o dX7_move_16 (c_X7_error hB M N 1 (by decide) (by decide)) zc_X7_54 (by decide) (i := 0) (by rw [hB]; exact zsh_lt rfl (by decide)) (zg_o rfl (by decide)) rfl rfl rfl (Nat.le_of_ble_eq_true rfl) (fun r5 g6 p7 => ?_)
    obtain ⟨rfl, rfl⟩ := p7
    have hN : sq_nmv A s i u j n = -1000000001 := by
      unfold sq_nmv;  rw [if_pos c4]
    have hS : sq_move A s i u j n = ((zE 1), zEr A 1) := by
      unfold sq_move;  rw [if_pos hN] <;> (try rfl)
    exact kret _ _ _ _ dX7_move_19 ⟨zu M 73 1 (M 73 1 + 1), N, rfl, by rw [hS], by rw [hS]; exact (hR).er (k := 1) (by decide), ((zHi.rf (M := M))).zu (by decide)⟩
  · obtain ⟨sa, hsa, esa⟩ := zin_lit (n := 3) rfl (by decide) c4
    subst esa
    obtain ⟨hszsa, hs24sa⟩ := sh_n2 hsh (s := sa) (by omega)
    refine z_iload_n (j := 3) o dX7_move_7 rfl ?_
    refine z_callSi (As := [.int u]) (n := 1) (st := []) o dX7_move_8 (c_X7_isSheet hB M N u) zc_X7_235 (by decide) rfl rfl (Nat.le_of_ble_eq_true rfl) (fun r8 g9 p10 => ?_)
    obtain ⟨rfl, rfl⟩ := p10
    refine z_ifne (tgt := 20) o dX7_move_11 (by decide) (fun c11 => ?_) (fun c11 => ?_)
    · obtain ⟨ua, hua, eua⟩ := zin_lit (n := 3) rfl (by decide) c11
      subst eua
      obtain ⟨hszua, hs24ua⟩ := sh_n2 hsh (s := ua) (by omega)
      refine z_aload_n (j := 0) o dX7_move_20 rfl ?_
      refine zo_get (i := 0) o hB dX7_move_21 zf_X7_38 rfl (by decide) (rfl) ?_
      refine z_iload_n (j := 1) o dX7_move_24 rfl ?_
      refine zo_aldS (i := 72) (j := sa) o hB dX7_move_25 rfl (show sa < 4 by omega) (by decide) ?_
      refine z_astore (i := 6) (lv2 := [(6, zref B (74 + 2 * sa)), (0, zref B 0), (1, .int (nI sa)), (2, .int i), (3, .int (nI ua)), (4, .int j), (5, .int n)]) o dX7_move_26 (by decide) rfl ?_
      refine z_aload_n (j := 1) o dX7_move_28 rfl ?_
      refine zo_get (i := 0) o hB dX7_move_29 zf_X7_38 rfl (by decide) (rfl) ?_
      refine z_iload_n (j := 4) o dX7_move_32 rfl ?_
      refine zo_aldS (i := 72) (j := ua) o hB dX7_move_33 rfl (show ua < 4 by omega) (by decide) ?_
      refine z_astore (i := 7) (lv2 := [(7, zref B (74 + 2 * ua)), (6, zref B (74 + 2 * sa)), (0, zref B 0), (1, .int (nI sa)), (2, .int i), (3, .int (nI ua)), (4, .int j), (5, .int n)]) o dX7_move_34 (by decide) rfl ?_
      refine z_aload (j := 1) o dX7_move_36 rfl ?_
      refine zo_get (i := 74 + 2 * sa) o hB dX7_move_38 zf_X7_238 (zh_sheet (by omega)) (by decide) (rfl) ?_
      refine zo_rw (y := A 87 sa) ((hR.2.2.2.2.2.2 sa (by omega)).2.1) ?_
      refine z_ifeq (tgt := 52) o dX7_move_41 (by decide) (fun c12 => ?_) (fun c12 => ?_)
      · refine z_aload_n (j := 2) o dX7_move_52 rfl ?_
        refine z_iconst (v := 2) o dX7_move_53 (by decide) ?_
        refine z_callVi (As := [.int 2]) (n := 1) (st := []) o dX7_move_54 (c_X7_error hB M N 2 (by decide) (by decide)) zc_X7_54 (by decide) (i := 0) (by rw [hB]; exact zsh_lt rfl (by decide)) (zg_o rfl (by decide)) rfl rfl rfl (Nat.le_of_ble_eq_true rfl) (fun r13 g14 p15 => ?_)
        obtain ⟨rfl, rfl⟩ := p15
        have hN : sq_nmv A (nI sa) i (nI ua) j n = -1000000002 := by
          unfold sq_nmv; (try rw [zn_nI (n := sa) (by omega)]); (try rw [zn_nI (n := ua) (by omega)]); rw [if_neg c4, if_neg c11, if_pos c12]
        have hS : sq_move A (nI sa) i (nI ua) j n = ((zE 2), zEr A 2) := by
          unfold sq_move; (try rw [zn_nI (n := sa) (by omega)]); (try rw [zn_nI (n := ua) (by omega)]); rw [if_neg (by rw [hN]; decide), if_pos hN] <;> (try rfl)
        exact kret _ _ _ _ dX7_move_57 ⟨zu M 73 2 (M 73 2 + 1), N, rfl, by rw [hS], by rw [hS]; exact (hR).er (k := 2) (by decide), ((zHi.rf (M := M))).zu (by decide)⟩
      · refine z_aload (j := 0) o dX7_move_44 rfl ?_
        refine zo_get (i := 74 + 2 * ua) o hB dX7_move_46 zf_X7_238 (zh_sheet (by omega)) (by decide) (rfl) ?_
        refine zo_rw (y := A 87 ua) ((hR.2.2.2.2.2.2 ua (by omega)).2.1) ?_
        refine z_ifne (tgt := 58) o dX7_move_49 (by decide) (fun c16 => ?_) (fun c16 => ?_)
        · refine z_aload (j := 1) o dX7_move_58 rfl ?_
          refine zo_get (i := 74 + 2 * sa) o hB dX7_move_60 zf_X7_238 (zh_sheet (by omega)) (by decide) (rfl) ?_
          refine zo_rw (y := A 87 sa) ((hR.2.2.2.2.2.2 sa (by omega)).2.1) ?_
          refine z_aload (j := 0) o dX7_move_63 rfl ?_
          refine zo_get (i := 74 + 2 * ua) o hB dX7_move_65 zf_X7_238 (zh_sheet (by omega)) (by decide) (rfl) ?_
          refine zo_rw (y := A 87 ua) ((hR.2.2.2.2.2.2 ua (by omega)).2.1) ?_
          refine z_icmpeq (tgt := 77) o dX7_move_68 (by decide) (fun c17 => ?_) (fun c17 => ?_)
          · refine z_aload (j := 1) o dX7_move_77 rfl ?_
            refine z_iload_n (j := 4) o dX7_move_79 rfl ?_
            refine z_iload (j := 7) o dX7_move_80 rfl ?_
            refine z_callVi (As := [.int i, .int n]) (n := 2) (st := []) o dX7_move_82 (c_X4_hasPart hB M N (74 + 2 * sa) i n (zh_sheet (by omega))) zc_X7_272 (by decide) (i := 74 + 2 * sa) (by rw [hB]; exact zsh_lt (zh_sheet (by omega)) (by decide)) (zg_o (zh_sheet (by omega)) (by decide)) rfl rfl rfl (Nat.le_of_ble_eq_true rfl) (fun r18 g19 p20 => ?_)
            obtain ⟨rfl, rfl⟩ := p20
            refine zo_rw (y := cg_part (nI (sh_n A sa)) i n) (by rw [(hR.2.2.2.2.2.2 sa (by omega)).1, hszsa]) ?_
            refine z_ifeq (tgt := 100) o dX7_move_85 (by decide) (fun c21 => ?_) (fun c21 => ?_)
            · refine z_aload_n (j := 2) o dX7_move_100 rfl ?_
              refine z_iconst (v := 1) o dX7_move_101 (by decide) ?_
              refine z_callVi (As := [.int 1]) (n := 1) (st := []) o dX7_move_102 (c_X7_error hB M N 1 (by decide) (by decide)) zc_X7_54 (by decide) (i := 0) (by rw [hB]; exact zsh_lt rfl (by decide)) (zg_o rfl (by decide)) rfl rfl rfl (Nat.le_of_ble_eq_true rfl) (fun r22 g23 p24 => ?_)
              obtain ⟨rfl, rfl⟩ := p24
              have hN : sq_nmv A (nI sa) i (nI ua) j n = -1000000001 := by
                unfold sq_nmv; (try rw [zn_nI (n := sa) (by omega)]); (try rw [zn_nI (n := ua) (by omega)]); rw [if_neg c4, if_neg c11, if_neg c12, if_neg c16, if_pos c17, hszsa, nst_bad (Or.inl ((part_no hs24sa).mp c21))]
              have hS : sq_move A (nI sa) i (nI ua) j n = ((zE 1), zEr A 1) := by
                unfold sq_move; (try rw [zn_nI (n := sa) (by omega)]); (try rw [zn_nI (n := ua) (by omega)]); rw [if_pos hN] <;> (try rfl)
              exact kret _ _ _ _ dX7_move_105 ⟨zu M 73 1 (M 73 1 + 1), N, rfl, by rw [hS], by rw [hS]; exact (hR).er (k := 1) (by decide), ((zHi.rf (M := M))).zu (by decide)⟩
            · refine z_aload (j := 0) o dX7_move_88 rfl ?_
              refine z_iload (j := 6) o dX7_move_90 rfl ?_
              refine z_iload (j := 7) o dX7_move_92 rfl ?_
              refine z_callVi (As := [.int j, .int n]) (n := 2) (st := []) o dX7_move_94 (c_X4_hasPart hB M N (74 + 2 * ua) j n (zh_sheet (by omega))) zc_X7_272 (by decide) (i := 74 + 2 * ua) (by rw [hB]; exact zsh_lt (zh_sheet (by omega)) (by decide)) (zg_o (zh_sheet (by omega)) (by decide)) rfl rfl rfl (Nat.le_of_ble_eq_true rfl) (fun r25 g26 p27 => ?_)
              obtain ⟨rfl, rfl⟩ := p27
              refine zo_rw (y := cg_part (nI (sh_n A ua)) j n) (by rw [(hR.2.2.2.2.2.2 ua (by omega)).1, hszua]) ?_
              refine z_ifne (tgt := 106) o dX7_move_97 (by decide) (fun c28 => ?_) (fun c28 => ?_)
              · have hk1 := c21
                have hk2 := c28
                obtain ⟨ia, na, ei, en, hin⟩ := part_yes hs24sa hk1
                obtain ⟨ja, nb, ej, en2, hjn⟩ := part_yes hs24ua hk2
                subst ei
                subst ej
                rw [en] at en2
                obtain rfl : na = nb := (nI_eq (by omega) (by omega)).mp en2
                subst en
                refine z_aload (j := 1) o dX7_move_106 rfl ?_
                refine zo_get (i := 74 + 2 * sa) o hB dX7_move_108 zf_X7_266 (zh_sheet (by omega)) (by decide) (rfl) ?_
                refine z_iload_n (j := 4) o dX7_move_111 rfl ?_
                refine z_aload (j := 0) o dX7_move_112 rfl ?_
                refine zo_get (i := 74 + 2 * ua) o hB dX7_move_114 zf_X7_266 (zh_sheet (by omega)) (by decide) (rfl) ?_
                refine z_iload (j := 6) o dX7_move_117 rfl ?_
                refine z_iload (j := 7) o dX7_move_119 rfl ?_
                refine z_copyi (i0 := 74 + 2 * sa + 1) (i1 := 74 + 2 * ua + 1) o dX7_move_121 zm_X7_275 zn_ac zn_as zn_ai (by rw [hB]; exact zsh_lt (zh_S (zh_sheet (by omega))) (by decide)) (by rw [hB]; exact zsh_lt (zh_S (zh_sheet (by omega))) (by decide)) (zg_i (zh_S (zh_sheet (by omega)))) (zg_i (zh_S (zh_sheet (by omega)))) (nI_pos (by omega)) (nI_pos (by omega)) (nI_pos (by omega)) (by rw [zh_Sn (zh_sheet (by omega)), nI_clamp (by omega), nI_clamp (by omega)]; omega) (by rw [zh_Sn (zh_sheet (by omega)), nI_clamp (by omega), nI_clamp (by omega)]; omega) (by decide) (Nat.le_of_ble_eq_true rfl) ?_
                rw [zg_ist (zh_S (zh_sheet (by omega)))]
                rw [show va_up M (74 + 2 * ua + 1) (va_cpy (M (74 + 2 * sa + 1)) (M (74 + 2 * ua + 1)) (Int32.toNatClampNeg (nI ia)) (Int32.toNatClampNeg (nI ja)) (Int32.toNatClampNeg (nI na))) = va_up M (74 + 2 * ua + 1) (va_cpy (M (74 + 2 * sa + 1)) (M (74 + 2 * ua + 1)) ia ja na) from by rw [nI_clamp (show ia < 2 ^ 31 by omega), nI_clamp (show ja < 2 ^ 31 by omega), nI_clamp (show na < 2 ^ 31 by omega)]]
                have hRs : zRl (va_up M (74 + 2 * ua + 1) (va_cpy (M (74 + 2 * sa + 1)) (M (74 + 2 * ua + 1)) ia ja na)) N (va_up A 89 (sp_mvc (A 89) (24 * sa + ia) (24 * ua + ja) na (decide (nI ia < nI ja)) na)) := hR.shm (by omega) (by omega) (by omega) (by omega) (decide_eq_decide.mpr ⟨fun q => (nI_ltI (by omega) (by omega)).mp q, fun q => nI_lt q (by omega)⟩)
                refine z_iload (j := 7) o dX7_move_124 rfl ?_
                have hN : sq_nmv A (nI sa) (nI ia) (nI ua) (nI ja) (nI na) = 0 := by
                  unfold sq_nmv; (try rw [zn_nI (n := sa) (by omega)]); (try rw [zn_nI (n := ua) (by omega)]); (try rw [zn_nI (n := ia) (by omega)]); (try rw [zn_nI (n := ja) (by omega)]); (try rw [zn_nI (n := na) (by omega)]); rw [if_neg c4, if_neg c11, if_neg c12, if_neg c16, if_pos c17, hszsa, hszua, nst_ok (fun q => hk1 ((part_no hs24sa).mpr q)) (fun q => hk2 ((part_no hs24ua).mpr q))]
                have hS : sq_move A (nI sa) (nI ia) (nI ua) (nI ja) (nI na) = ((nI na), va_up A 89 (sp_mvc (A 89) (24 * sa + ia) (24 * ua + ja) na (decide (nI ia < nI ja)) na)) := by
                  unfold sq_move; (try rw [zn_nI (n := sa) (by omega)]); (try rw [zn_nI (n := ua) (by omega)]); (try rw [zn_nI (n := ia) (by omega)]); (try rw [zn_nI (n := ja) (by omega)]); (try rw [zn_nI (n := na) (by omega)]); rw [if_neg (by rw [hN]; decide), if_neg (by rw [hN]; decide), if_neg (by rw [hN]; decide)] <;> (try rfl)
                exact kret _ _ _ _ dX7_move_126 ⟨va_up M (74 + 2 * ua + 1) (va_cpy (M (74 + 2 * sa + 1)) (M (74 + 2 * ua + 1)) ia ja na), N, rfl, by rw [hS], by rw [hS]; exact hRs, ((zHi.rf (M := M)).va (i := 74 + 2 * ua + 1) (by omega))⟩
              · refine z_aload_n (j := 2) o dX7_move_100 rfl ?_
                refine z_iconst (v := 1) o dX7_move_101 (by decide) ?_
                refine z_callVi (As := [.int 1]) (n := 1) (st := []) o dX7_move_102 (c_X7_error hB M N 1 (by decide) (by decide)) zc_X7_54 (by decide) (i := 0) (by rw [hB]; exact zsh_lt rfl (by decide)) (zg_o rfl (by decide)) rfl rfl rfl (Nat.le_of_ble_eq_true rfl) (fun r29 g30 p31 => ?_)
                obtain ⟨rfl, rfl⟩ := p31
                have hN : sq_nmv A (nI sa) i (nI ua) j n = -1000000001 := by
                  unfold sq_nmv; (try rw [zn_nI (n := sa) (by omega)]); (try rw [zn_nI (n := ua) (by omega)]); rw [if_neg c4, if_neg c11, if_neg c12, if_neg c16, if_pos c17, hszsa, hszua, nst_bad (Or.inr ((part_no hs24ua).mp c28))]
                have hS : sq_move A (nI sa) i (nI ua) j n = ((zE 1), zEr A 1) := by
                  unfold sq_move; (try rw [zn_nI (n := sa) (by omega)]); (try rw [zn_nI (n := ua) (by omega)]); rw [if_pos hN] <;> (try rfl)
                exact kret _ _ _ _ dX7_move_105 ⟨zu M 73 1 (M 73 1 + 1), N, rfl, by rw [hS], by rw [hS]; exact (hR).er (k := 1) (by decide), ((zHi.rf (M := M))).zu (by decide)⟩
          · refine z_aload_n (j := 2) o dX7_move_71 rfl ?_
            refine z_iconst (v := 5) o dX7_move_72 (by decide) ?_
            refine z_callVi (As := [.int 5]) (n := 1) (st := []) o dX7_move_73 (c_X7_error hB M N 5 (by decide) (by decide)) zc_X7_54 (by decide) (i := 0) (by rw [hB]; exact zsh_lt rfl (by decide)) (zg_o rfl (by decide)) rfl rfl rfl (Nat.le_of_ble_eq_true rfl) (fun r32 g33 p34 => ?_)
            obtain ⟨rfl, rfl⟩ := p34
            have hN : sq_nmv A (nI sa) i (nI ua) j n = -1000000005 := by
              unfold sq_nmv; (try rw [zn_nI (n := sa) (by omega)]); (try rw [zn_nI (n := ua) (by omega)]); rw [if_neg c4, if_neg c11, if_neg c12, if_neg c16, if_neg c17]
            have hS : sq_move A (nI sa) i (nI ua) j n = ((zE 5), zEr A 5) := by
              unfold sq_move; (try rw [zn_nI (n := sa) (by omega)]); (try rw [zn_nI (n := ua) (by omega)]); rw [if_neg (by rw [hN]; decide), if_neg (by rw [hN]; decide), if_pos hN] <;> (try rfl)
            exact kret _ _ _ _ dX7_move_76 ⟨zu M 73 5 (M 73 5 + 1), N, rfl, by rw [hS], by rw [hS]; exact (hR).er (k := 5) (by decide), ((zHi.rf (M := M))).zu (by decide)⟩
        · refine z_aload_n (j := 2) o dX7_move_52 rfl ?_
          refine z_iconst (v := 2) o dX7_move_53 (by decide) ?_
          refine z_callVi (As := [.int 2]) (n := 1) (st := []) o dX7_move_54 (c_X7_error hB M N 2 (by decide) (by decide)) zc_X7_54 (by decide) (i := 0) (by rw [hB]; exact zsh_lt rfl (by decide)) (zg_o rfl (by decide)) rfl rfl rfl (Nat.le_of_ble_eq_true rfl) (fun r35 g36 p37 => ?_)
          obtain ⟨rfl, rfl⟩ := p37
          have hN : sq_nmv A (nI sa) i (nI ua) j n = -1000000002 := by
            unfold sq_nmv; (try rw [zn_nI (n := sa) (by omega)]); (try rw [zn_nI (n := ua) (by omega)]); rw [if_neg c4, if_neg c11, if_neg c12, if_pos c16]
          have hS : sq_move A (nI sa) i (nI ua) j n = ((zE 2), zEr A 2) := by
            unfold sq_move; (try rw [zn_nI (n := sa) (by omega)]); (try rw [zn_nI (n := ua) (by omega)]); rw [if_neg (by rw [hN]; decide), if_pos hN] <;> (try rfl)
          exact kret _ _ _ _ dX7_move_57 ⟨zu M 73 2 (M 73 2 + 1), N, rfl, by rw [hS], by rw [hS]; exact (hR).er (k := 2) (by decide), ((zHi.rf (M := M))).zu (by decide)⟩
    · refine z_aload_n (j := 0) o dX7_move_14 rfl ?_
      refine z_iconst (v := 1) o dX7_move_15 (by decide) ?_
      refine z_callVi (As := [.int 1]) (n := 1) (st := []) o dX7_move_16 (c_X7_error hB M N 1 (by decide) (by decide)) zc_X7_54 (by decide) (i := 0) (by rw [hB]; exact zsh_lt rfl (by decide)) (zg_o rfl (by decide)) rfl rfl rfl (Nat.le_of_ble_eq_true rfl) (fun r38 g39 p40 => ?_)
      obtain ⟨rfl, rfl⟩ := p40
      have hN : sq_nmv A (nI sa) i u j n = -1000000001 := by
        unfold sq_nmv; (try rw [zn_nI (n := sa) (by omega)]); rw [if_neg c4, if_pos c11]
      have hS : sq_move A (nI sa) i u j n = ((zE 1), zEr A 1) := by
        unfold sq_move; (try rw [zn_nI (n := sa) (by omega)]); rw [if_pos hN] <;> (try rfl)
      exact kret _ _ _ _ dX7_move_19 ⟨zu M 73 1 (M 73 1 + 1), N, rfl, by rw [hS], by rw [hS]; exact (hR).er (k := 1) (by decide), ((zHi.rf (M := M))).zu (by decide)⟩

