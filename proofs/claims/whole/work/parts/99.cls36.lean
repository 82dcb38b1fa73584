/-! the class: its calls (10): thoughts -/
theorem zRl.th {M M1 : zM} {N N1 : zN} {A : zM} {ρ : Nat → Int32} (h : zRl M N A) (hm : zFr 45 M M1) (hn : zFrN 45 N N1) (hg : zRg 45 M1 N1 ρ) : zRl M1 N1 A :=
  h.sc (h.1.fr (fun j _ _ => hm j (by omega)) (fun j _ _ => hn j (by omega))) (fun j hj => hm j (by omega)) (fun j hj => hn j (by omega)) (fun u hu => (hg.2.2.2.2.2.2.2 u hu).1)
set_option maxHeartbeats 4000000 in
set_option maxRecDepth 100000 in
theorem k_then {B : zB} (hB : znn B = 95) (M : zM) (N : zN) (A : zM) (f : Int32) (n : Int32) (w : Int32) (hR : zRl M N A) (hok : zOkAll (A 83)) : zCi B (zg B M N) yX7_then cX7_then 5 (some .int) 7 [zref B 0, .int f, .int n, .int w] (fun r g' => ∃ (M1 : zM) (N1 : zN), g' = zg B M1 N1 ∧ r = (sq_then A f n w).1 ∧ zRl M1 N1 (sq_then A f n w).2 ∧ zHi M M1) := by
  refine zCi_of (by decide +kernel) (Nat.le_of_ble_eq_true rfl) .int rfl (fun _ _ _ => rfl) ?_
  intro X o kret
  show zW X B (zg B M N) 0 [(0, zref B 0), (1, .int f), (2, .int n), (3, .int w)] []
  obtain ⟨hnf, hnf4⟩ := ok_nf2 hok.1
  obtain ⟨hnc, hnc6⟩ := ok_nc2 hok.1
  obtain ⟨hnt, hnt60⟩ := ok_nt2 hok.1
  obtain ⟨hnw, hnw24⟩ := ok_nw2 hok.1
  have hF : ∀ i, i < 4 → zFn (9 + 2 * i) M (A 83) i := fun i hi => hR.1.2.1 i hi
  refine z_aload_n (j := 0) o dX7_then_0 rfl ?_
  refine z_iload_n (j := 1) o dX7_then_1 rfl ?_
  refine z_callVi (As := [.int f]) (n := 1) (st := []) o dX7_then_2 (c_X7_isFence hB M N A f hR hok.1) zc_X7_72 (by decide) (i := 0) (by rw [hB]; exact zsh_lt rfl (by decide)) (zg_o rfl (by decide)) rfl rfl rfl (Nat.le_of_ble_eq_true rfl) (fun r1 g2 p3 => ?_)
  obtain ⟨rfl, rfl⟩ := p3
  refine z_ifeq (tgt := 27) o dX7_then_5 (by decide) (fun c4 => ?_) (fun c4 => ?_)
  · refine z_aload_n (j := 0) o dX7_then_27 rfl ?_
    refine z_iconst (v := 1) o dX7_then_28 (by decide) ?_
    refine z_callVi (As := [.int 1]) (n := 1) (st := []) o dX7_then_29 (c_X7_error hB M N 1 (by decide) (by decide)) zc_X7_54 (by decide) (i := 0) (by rw [hB]; exact zsh_lt rfl (by decide)) (zg_o rfl (by decide)) rfl rfl rfl (Nat.le_of_ble_eq_true rfl) (fun r5 g6 p7 => ?_)
    obtain ⟨rfl, rfl⟩ := p7
    have hS : sq_then A f n w = ((zE 1), zEr A 1) := by
      unfold sq_then;  rw [if_pos c4] <;> (try rfl)
    exact kret _ _ _ _ dX7_then_32 ⟨zu M 73 1 (M 73 1 + 1), N, rfl, by rw [hS], by rw [hS]; exact (hR).er (k := 1) (by decide), ((zHi.rf (M := M))).zu (by decide)⟩
  · have hzf := c4
    rw [hnf] at hzf
    obtain ⟨fa, hfa, efa⟩ := zin_nat (by omega) hzf
    subst efa
    obtain ⟨hnpfa, hnp8⟩ := ok_np2 hok.1 (i := fa) (by omega)
    refine z_iload_n (j := 2) o dX7_then_8 rfl ?_
    refine z_iflt (tgt := 27) o dX7_then_9 (by decide) (fun c8 => ?_) (fun c8 => ?_)
    · refine z_aload_n (j := 0) o dX7_then_27 rfl ?_
      refine z_iconst (v := 1) o dX7_then_28 (by decide) ?_
      refine z_callVi (As := [.int 1]) (n := 1) (st := []) o dX7_then_29 (c_X7_error hB M N 1 (by decide) (by decide)) zc_X7_54 (by decide) (i := 0) (by rw [hB]; exact zsh_lt rfl (by decide)) (zg_o rfl (by decide)) rfl rfl rfl (Nat.le_of_ble_eq_true rfl) (fun r9 g10 p11 => ?_)
      obtain ⟨rfl, rfl⟩ := p11
      have hS : sq_then A (nI fa) n w = ((zE 1), zEr A 1) := by
        unfold sq_then; (try rw [zn_nI (n := fa) (by omega)]); rw [if_neg c4, if_pos (zin_lo c8)] <;> (try rfl)
      exact kret _ _ _ _ dX7_then_32 ⟨zu M 73 1 (M 73 1 + 1), N, rfl, by rw [hS], by rw [hS]; exact (hR).er (k := 1) (by decide), ((zHi.rf (M := M))).zu (by decide)⟩
    · refine z_iload_n (j := 2) o dX7_then_12 rfl ?_
      refine z_bipush (v := 60) o dX7_then_13 (by decide) ?_
      refine z_icmpgt (tgt := 27) o dX7_then_15 (by decide) (fun c12 => ?_) (fun c12 => ?_)
      · refine z_aload_n (j := 0) o dX7_then_27 rfl ?_
        refine z_iconst (v := 1) o dX7_then_28 (by decide) ?_
        refine z_callVi (As := [.int 1]) (n := 1) (st := []) o dX7_then_29 (c_X7_error hB M N 1 (by decide) (by decide)) zc_X7_54 (by decide) (i := 0) (by rw [hB]; exact zsh_lt rfl (by decide)) (zg_o rfl (by decide)) rfl rfl rfl (Nat.le_of_ble_eq_true rfl) (fun r13 g14 p15 => ?_)
        obtain ⟨rfl, rfl⟩ := p15
        have hS : sq_then A (nI fa) n w = ((zE 1), zEr A 1) := by
          unfold sq_then; (try rw [zn_nI (n := fa) (by omega)]); rw [if_neg c4, if_pos (zin_hi c12)] <;> (try rfl)
        exact kret _ _ _ _ dX7_then_32 ⟨zu M 73 1 (M 73 1 + 1), N, rfl, by rw [hS], by rw [hS]; exact (hR).er (k := 1) (by decide), ((zHi.rf (M := M))).zu (by decide)⟩
      · obtain ⟨na, hna, ena⟩ := zin_lit (n := 60) rfl (by decide) (zin_in c8 c12)
        subst ena
        refine z_iload_n (j := 3) o dX7_then_18 rfl ?_
        refine z_iflt (tgt := 27) o dX7_then_19 (by decide) (fun c16 => ?_) (fun c16 => ?_)
        · refine z_aload_n (j := 0) o dX7_then_27 rfl ?_
          refine z_iconst (v := 1) o dX7_then_28 (by decide) ?_
          refine z_callVi (As := [.int 1]) (n := 1) (st := []) o dX7_then_29 (c_X7_error hB M N 1 (by decide) (by decide)) zc_X7_54 (by decide) (i := 0) (by rw [hB]; exact zsh_lt rfl (by decide)) (zg_o rfl (by decide)) rfl rfl rfl (Nat.le_of_ble_eq_true rfl) (fun r17 g18 p19 => ?_)
          obtain ⟨rfl, rfl⟩ := p19
          have hS : sq_then A (nI fa) (nI na) w = ((zE 1), zEr A 1) := by
            unfold sq_then; (try rw [zn_nI (n := fa) (by omega)]); (try rw [zn_nI (n := na) (by omega)]); rw [if_neg c4, if_neg (zin_in c8 c12), if_pos (zin_lo c16)] <;> (try rfl)
          exact kret _ _ _ _ dX7_then_32 ⟨zu M 73 1 (M 73 1 + 1), N, rfl, by rw [hS], by rw [hS]; exact (hR).er (k := 1) (by decide), ((zHi.rf (M := M))).zu (by decide)⟩
        · refine z_iload_n (j := 3) o dX7_then_22 rfl ?_
          refine z_iconst (v := 1) o dX7_then_23 (by decide) ?_
          refine z_icmple (tgt := 33) o dX7_then_24 (by decide) (fun c20 => ?_) (fun c20 => ?_)
          · refine z_aload_n (j := 0) o dX7_then_33 rfl ?_
            refine zo_get (i := 0) o hB dX7_then_34 zf_X7_19 rfl (by decide) (rfl) ?_
            refine z_aload_n (j := 0) o dX7_then_37 rfl ?_
            refine zo_get (i := 0) o hB dX7_then_38 zf_X7_10 rfl (by decide) (rfl) ?_
            refine z_callVv (As := [zref B 1]) (n := 1) (st := []) o dX7_then_41 (c_X3_takeAll hB M N 45 1 (A 83) rfl rfl (Or.inr (by decide)) hok hR.1 (fun u hu => (hR.2.2.1 u hu).2)) zc_X7_213 (by decide) (i := 45) (by rw [hB]; exact zsh_lt rfl (by decide)) (zg_o rfl (by decide)) rfl rfl rfl (Nat.le_of_ble_eq_true rfl) (fun g22 p23 => ?_)
            obtain ⟨M9, N9, rfl, f9, n9, g9⟩ := p23
            refine z_aload_n (j := 0) o dX7_then_44 rfl ?_
            refine zo_get (i := 0) o hB dX7_then_45 zf_X7_19 rfl (by decide) (rfl) ?_
            refine z_iload_n (j := 2) o dX7_then_48 rfl ?_
            refine z_callVv (As := [.int (nI na)]) (n := 1) (st := []) o dX7_then_49 (c_X3_dawnsCome hB M9 N9 45 na (A 83) rfl hok g9 (by omega)) zc_X7_200 (by decide) (i := 45) (by rw [hB]; exact zsh_lt rfl (by decide)) (zg_o rfl (by decide)) rfl rfl rfl (Nat.le_of_ble_eq_true rfl) (fun g25 p26 => ?_)
            obtain ⟨M8, N8, rfl, f8, n8, g8⟩ := p26
            have f7 : zFr 45 M M8 := f9.tr f8
            have n7 : zFrN 45 N N8 := fun j hj => (n8 j hj).trans (n9 j hj)
            refine z_aload_n (j := 0) o dX7_then_52 rfl ?_
            refine zo_get (i := 0) o hB dX7_then_53 zf_X7_19 rfl (by decide) (rfl) ?_
            refine zo_get (i := 45) o hB dX7_then_56 zf_X7_62 rfl (by decide) (rfl) ?_
            refine z_iload_n (j := 1) o dX7_then_59 rfl ?_
            refine zo_aldF (i := 46) (j := fa) o hB dX7_then_60 rfl (show fa < 4 by omega) (by decide) ?_
            refine z_astore (i := 4) (lv2 := [(4, zref B (53 + 2 * fa)), (0, zref B 0), (1, .int (nI fa)), (2, .int (nI na)), (3, .int w)]) o dX7_then_61 (by decide) rfl ?_
            refine z_iload_n (j := 4) o dX7_then_63 rfl ?_
            refine z_ifne (tgt := 78) o dX7_then_64 (by decide) (fun c27 => ?_) (fun c27 => ?_)
            · have hbw : w = 1 := two_one (zin_in c16 c20) c27
              obtain rfl : w = 1 := hbw
              refine z_aload (j := 0) o dX7_then_78 rfl ?_
              refine zo_get (i := 53 + 2 * fa) o hB dX7_then_80 zf_X7_95 ((zh_R (r := 45) rfl).2.2.2.2.2.2.2.1 fa (by omega)) (by decide) (rfl) ?_
              refine zo_rw (y := sp_goesN (A 83) na (6 + 13 * fa + 4)) ((g8.2.1 fa (by omega)).2.2.2.2.1) ?_
              have hS : sq_then A (nI fa) (nI na) 1 = ((sp_goesN (A 83) na (6 + 13 * fa + 4)), A) := by
                unfold sq_then; (try rw [zn_nI (n := fa) (by omega)]); (try rw [zn_nI (n := na) (by omega)]); rw [if_neg c4, if_neg (zin_in c8 c12), if_neg (zin_in c16 c20), if_neg (show ¬ (1 : Int32) = 0 by decide)] <;> (try rfl)
              exact kret _ _ _ _ dX7_then_83 ⟨M8, N8, rfl, by rw [hS], by rw [hS]; exact (hR.th f7 n7 g8), ((zHi.rf (M := M)).fr f7 (by decide))⟩
            · obtain rfl : w = 0 := c27
              refine z_aload (j := 0) o dX7_then_67 rfl ?_
              refine z_callVl (As := []) (n := 0) (st := []) o dX7_then_69 (c_X0_inside hB M8 N8 (53 + 2 * fa) fa (sp_goesN (A 83) na) ((zh_R (r := 45) rfl).2.2.2.2.2.2.2.1 fa (by omega)) (by omega) (okA_goesN hok na).1 (g8.2.1 fa (by omega))) zc_X7_98 (by decide) (i := 53 + 2 * fa) (by rw [hB]; exact zsh_lt ((zh_R (r := 45) rfl).2.2.2.2.2.2.2.1 fa (by omega)) (by decide)) (zg_o ((zh_R (r := 45) rfl).2.2.2.2.2.2.2.1 fa (by omega)) (by decide)) rfl rfl rfl (Nat.le_of_ble_eq_true rfl) (fun r28 g29 p30 => ?_)
              obtain ⟨rfl, rfl⟩ := p30
              refine z_callSi (As := [.long (sp_ins (sp_goesN (A 83) na) fa)]) (n := 1) (st := []) o dX7_then_72 (c_J13_bitCount hB M8 N8 (sp_ins (sp_goesN (A 83) na) fa)) zc_X7_102 (by decide) rfl rfl (Nat.le_of_ble_eq_true rfl) (fun r31 g32 p33 => ?_)
              obtain ⟨rfl, rfl⟩ := p33
              refine z_goto (tgt := 83) o dX7_then_75 (by decide) ?_
              have hS : sq_then A (nI fa) (nI na) 0 = ((nI (lpop (sp_ins (sp_goesN (A 83) na) fa))), A) := by
                unfold sq_then; (try rw [zn_nI (n := fa) (by omega)]); (try rw [zn_nI (n := na) (by omega)]); rw [if_neg c4, if_neg (zin_in c8 c12), if_neg (zin_in c16 c20), if_pos rfl] <;> (try rfl)
              exact kret _ _ _ _ dX7_then_83 ⟨M8, N8, rfl, by rw [hS], by rw [hS]; exact (hR.th f7 n7 g8), ((zHi.rf (M := M)).fr f7 (by decide))⟩
          · refine z_aload_n (j := 0) o dX7_then_27 rfl ?_
            refine z_iconst (v := 1) o dX7_then_28 (by decide) ?_
            refine z_callVi (As := [.int 1]) (n := 1) (st := []) o dX7_then_29 (c_X7_error hB M N 1 (by decide) (by decide)) zc_X7_54 (by decide) (i := 0) (by rw [hB]; exact zsh_lt rfl (by decide)) (zg_o rfl (by decide)) rfl rfl rfl (Nat.le_of_ble_eq_true rfl) (fun r34 g35 p36 => ?_)
            obtain ⟨rfl, rfl⟩ := p36
            have hS : sq_then A (nI fa) (nI na) w = ((zE 1), zEr A 1) := by
              unfold sq_then; (try rw [zn_nI (n := fa) (by omega)]); (try rw [zn_nI (n := na) (by omega)]); rw [if_neg c4, if_neg (zin_in c8 c12), if_pos (zin_hi c20)] <;> (try rfl)
            exact kret _ _ _ _ dX7_then_32 ⟨zu M 73 1 (M 73 1 + 1), N, rfl, by rw [hS], by rw [hS]; exact (hR).er (k := 1) (by decide), ((zHi.rf (M := M))).zu (by decide)⟩

set_option maxHeartbeats 4000000 in
set_option maxRecDepth 100000 in
theorem k_first {B : zB} (hB : znn B = 95) (M : zM) (N : zN) (A : zM) (c : Int32) (w : Int32) (hR : zRl M N A) (hok : zOkAll (A 83)) : zCi B (zg B M N) yX7_first cX7_first 5 (some .int) 5 [zref B 0, .int c, .int w] (fun r g' => ∃ (M1 : zM) (N1 : zN), g' = zg B M1 N1 ∧ r = (sq_first A c w).1 ∧ zRl M1 N1 (sq_first A c w).2 ∧ zHi M M1) := by
  refine zCi_of (by decide +kernel) (Nat.le_of_ble_eq_true rfl) .int rfl (fun _ _ _ => rfl) ?_
  intro X o kret
  show zW X B (zg B M N) 0 [(0, zref B 0), (1, .int c), (2, .int w)] []
  obtain ⟨hnf, hnf4⟩ := ok_nf2 hok.1
  obtain ⟨hnc, hnc6⟩ := ok_nc2 hok.1
  obtain ⟨hnt, hnt60⟩ := ok_nt2 hok.1
  obtain ⟨hnw, hnw24⟩ := ok_nw2 hok.1
  have hF : ∀ i, i < 4 → zFn (9 + 2 * i) M (A 83) i := fun i hi => hR.1.2.1 i hi
  refine z_iload_n (j := 1) o dX7_first_0 rfl ?_
  refine z_callSi (As := [.int c]) (n := 1) (st := []) o dX7_first_1 (c_X1_isCell hB M N c) zc_X7_75 (by decide) rfl rfl (Nat.le_of_ble_eq_true rfl) (fun r1 g2 p3 => ?_)
  obtain ⟨rfl, rfl⟩ := p3
  refine zo_rw (y := zin c 0 63) (cg_cell_eq _) ?_
  refine z_ifeq (tgt := 16) o dX7_first_4 (by decide) (fun c4 => ?_) (fun c4 => ?_)
  · refine z_aload_n (j := 0) o dX7_first_16 rfl ?_
    refine z_iconst (v := 1) o dX7_first_17 (by decide) ?_
    refine z_callVi (As := [.int 1]) (n := 1) (st := []) o dX7_first_18 (c_X7_error hB M N 1 (by decide) (by decide)) zc_X7_54 (by decide) (i := 0) (by rw [hB]; exact zsh_lt rfl (by decide)) (zg_o rfl (by decide)) rfl rfl rfl (Nat.le_of_ble_eq_true rfl) (fun r5 g6 p7 => ?_)
    obtain ⟨rfl, rfl⟩ := p7
    have hS : sq_first A c w = ((zE 1), zEr A 1) := by
      unfold sq_first;  rw [if_pos c4] <;> (try rfl)
    exact kret _ _ _ _ dX7_first_21 ⟨zu M 73 1 (M 73 1 + 1), N, rfl, by rw [hS], by rw [hS]; exact (hR).er (k := 1) (by decide), ((zHi.rf (M := M))).zu (by decide)⟩
  · obtain ⟨cc, hcc, ecc⟩ := zin_lit (n := 63) rfl (by decide) c4
    subst ecc
    refine z_iload_n (j := 2) o dX7_first_7 rfl ?_
    refine z_iflt (tgt := 16) o dX7_first_8 (by decide) (fun c8 => ?_) (fun c8 => ?_)
    · refine z_aload_n (j := 0) o dX7_first_16 rfl ?_
      refine z_iconst (v := 1) o dX7_first_17 (by decide) ?_
      refine z_callVi (As := [.int 1]) (n := 1) (st := []) o dX7_first_18 (c_X7_error hB M N 1 (by decide) (by decide)) zc_X7_54 (by decide) (i := 0) (by rw [hB]; exact zsh_lt rfl (by decide)) (zg_o rfl (by decide)) rfl rfl rfl (Nat.le_of_ble_eq_true rfl) (fun r9 g10 p11 => ?_)
      obtain ⟨rfl, rfl⟩ := p11
      have hS : sq_first A (nI cc) w = ((zE 1), zEr A 1) := by
        unfold sq_first; (try rw [zn_nI (n := cc) (by omega)]); rw [if_neg c4, if_pos (zin_lo c8)] <;> (try rfl)
      exact kret _ _ _ _ dX7_first_21 ⟨zu M 73 1 (M 73 1 + 1), N, rfl, by rw [hS], by rw [hS]; exact (hR).er (k := 1) (by decide), ((zHi.rf (M := M))).zu (by decide)⟩
    · refine z_iload_n (j := 2) o dX7_first_11 rfl ?_
      refine z_iconst (v := 1) o dX7_first_12 (by decide) ?_
      refine z_icmple (tgt := 22) o dX7_first_13 (by decide) (fun c12 => ?_) (fun c12 => ?_)
      · refine z_aload_n (j := 0) o dX7_first_22 rfl ?_
        refine zo_get (i := 0) o hB dX7_first_23 zf_X7_19 rfl (by decide) (rfl) ?_
        refine z_aload_n (j := 0) o dX7_first_26 rfl ?_
        refine zo_get (i := 0) o hB dX7_first_27 zf_X7_10 rfl (by decide) (rfl) ?_
        refine z_callVv (As := [zref B 1]) (n := 1) (st := []) o dX7_first_30 (c_X3_takeAll hB M N 45 1 (A 83) rfl rfl (Or.inr (by decide)) hok hR.1 (fun u hu => (hR.2.2.1 u hu).2)) zc_X7_213 (by decide) (i := 45) (by rw [hB]; exact zsh_lt rfl (by decide)) (zg_o rfl (by decide)) rfl rfl rfl (Nat.le_of_ble_eq_true rfl) (fun g14 p15 => ?_)
        obtain ⟨M9, N9, rfl, f9, n9, g9⟩ := p15
        refine z_iconst (v := 0) o dX7_first_33 (by decide) ?_
        refine z_istore_n (i := 3) (lv2 := [(3, .int 0), (0, zref B 0), (1, .int (nI cc)), (2, .int w)]) o dX7_first_34 rfl (by decide) rfl ?_
        have LOOP : ∀ nq kq : Nat, kq + nq = 61 → ∀ (M1 : zM) (N1 : zN), zFr 45 M M1 → zFrN 45 N N1 → zRg 45 M1 N1 (sp_movesN (A 83) kq) → sp_fst (A 83) cc = sp_find (fun k => decide (¬ sp_brand (sp_movesN (A 83) k) cc < 0)) nq kq → zW X B (zg B M1 N1) 35 [(3, .int (nI kq)), (0, zref B 0), (1, .int (nI cc)), (2, .int w)] [] := by
          intro nq
          induction nq with
          | zero =>
            intro kq hkq M1 N1 h1 h1n hg1 hF9
            obtain rfl : kq = 61 := by omega
            have hF9 : sp_fst (A 83) cc = 61 := hF9
            refine z_iload_n (j := 0) o dX7_first_35 rfl ?_
            refine z_bipush (v := 60) o dX7_first_36 (by decide) ?_
            refine z_icmpgt (tgt := 87) o dX7_first_38 (by decide) (fun c16 => ?_) (fun c16 => ?_)
            · refine z_aload_n (j := 1) o dX7_first_87 rfl ?_
              refine z_iconst (v := 2) o dX7_first_88 (by decide) ?_
              refine z_callVi (As := [.int 2]) (n := 1) (st := []) o dX7_first_89 (c_X7_error hB M1 N1 2 (by decide) (by decide)) zc_X7_54 (by decide) (i := 0) (by rw [hB]; exact zsh_lt rfl (by decide)) (zg_o rfl (by decide)) rfl rfl rfl (Nat.le_of_ble_eq_true rfl) (fun r17 g18 p19 => ?_)
              obtain ⟨rfl, rfl⟩ := p19
              have hS : sq_first A (nI cc) w = ((zE 2), zEr A 2) := by
                unfold sq_first; (try rw [zn_nI (n := cc) (by omega)]); rw [if_neg c4, if_neg (zin_in c8 c12), hF9, if_pos (show (60 : Int32) < nI 61 by decide)] <;> (try rfl)
              exact kret _ _ _ _ dX7_first_92 ⟨zu M1 73 2 (M1 73 2 + 1), N1, rfl, by rw [hS], by rw [hS]; exact ((hR.th h1 h1n hg1)).er (k := 2) (by decide), (((zHi.rf (M := M)).fr h1 (by decide))).zu (by decide)⟩
            · exact absurd (nI_lt (a := 60) (b := 61) (by omega) (by omega)) c16
          | succ nq ih =>
            intro kq hkq M1 N1 h1 h1n hg1 hF9
            have hlt : kq ≤ 60 := by omega
            refine z_iload_n (j := 0) o dX7_first_35 rfl ?_
            refine z_bipush (v := 60) o dX7_first_36 (by decide) ?_
            refine z_icmpgt (tgt := 87) o dX7_first_38 (by decide) (fun c20 => ?_) (fun c20 => ?_)
            · exact absurd c20 (nI_nlt (a := 60) (b := kq) (by omega) (by omega))
            · refine z_aload_n (j := 1) o dX7_first_41 rfl ?_
              refine zo_get (i := 0) o hB dX7_first_42 zf_X7_19 rfl (by decide) (rfl) ?_
              refine z_callVv (As := []) (n := 0) (st := []) o dX7_first_45 (c_X3_lookInside hB M1 N1 45 (sp_movesN (A 83) kq) rfl (ok_movesN hok.1 kq) hg1) zc_X7_155 (by decide) (i := 45) (by rw [hB]; exact zsh_lt rfl (by decide)) (zg_o rfl (by decide)) rfl rfl rfl (Nat.le_of_ble_eq_true rfl) (fun g22 p23 => ?_)
              obtain ⟨N24, rfl, fnN24, snN24⟩ := p23
              have h2n : zFrN 45 N N24 := fun j hj => (fnN24 j (by omega)).trans (h1n j hj)
              have hg2 : zRg 45 M1 N24 (sp_movesN (A 83) kq) := hg1.sn (N1 := N24) (fnN24 45 (by decide))
              have sn45 := snN24
              refine z_aload_n (j := 1) o dX7_first_48 rfl ?_
              refine zo_get (i := 0) o hB dX7_first_49 zf_X7_19 rfl (by decide) (rfl) ?_
              refine z_iload_n (j := 2) o dX7_first_52 rfl ?_
              refine z_callVi (As := [.int (nI cc)]) (n := 1) (st := []) o dX7_first_53 (c_X3_brandSeen hB M1 N24 45 (sp_movesN (A 83) kq) cc rfl (ok_movesN hok.1 kq) hg2 (by omega) sn45) zc_X7_158 (by decide) (i := 45) (by rw [hB]; exact zsh_lt rfl (by decide)) (zg_o rfl (by decide)) rfl rfl rfl (Nat.le_of_ble_eq_true rfl) (fun r25 g26 p27 => ?_)
              obtain ⟨rfl, rfl⟩ := p27
              refine z_istore (i := 4) (lv2 := [(4, .int (sp_brand (sp_movesN (A 83) kq) cc)), (3, .int (nI kq)), (0, zref B 0), (1, .int (nI cc)), (2, .int w)]) o dX7_first_56 (by decide) rfl ?_
              refine z_iload (j := 0) o dX7_first_58 rfl ?_
              refine z_iflt (tgt := 74) o dX7_first_60 (by decide) (fun c28 => ?_) (fun c28 => ?_)
              · refine z_aload_n (j := 2) o dX7_first_74 rfl ?_
                refine zo_get (i := 0) o hB dX7_first_75 zf_X7_19 rfl (by decide) (rfl) ?_
                refine z_callVv (As := []) (n := 0) (st := []) o dX7_first_78 (c_X3_postsMove hB M1 N24 45 (sp_movesN (A 83) kq) rfl (ok_movesN hok.1 kq) hg2) zc_X7_217 (by decide) (i := 45) (by rw [hB]; exact zsh_lt rfl (by decide)) (zg_o rfl (by decide)) rfl rfl rfl (Nat.le_of_ble_eq_true rfl) (fun g30 p31 => ?_)
                obtain ⟨M32, rfl, fM32, gM32⟩ := p31
                have h3 : zFr 45 M M32 := h1.tr fM32
                refine z_iinc (j := 1) (v := nI (kq + 1)) (lv2 := [(3, .int (nI (kq + 1))), (4, .int (sp_brand (sp_movesN (A 83) kq) cc)), (0, zref B 0), (1, .int (nI cc)), (2, .int w)]) o dX7_first_81 rfl (zn_ofInt _) (by decide) rfl ?_
                refine z_goto (tgt := 35) o dX7_first_84 (by decide) ?_
                refine zo_lv [0, 2, 3, 4] rfl ?_
                exact ih (kq + 1) (by omega) _ _ h3 h2n gM32 (hF9.trans (sp_find_f (decide_eq_false (fun q => q c28))))
              · have hfst : sp_fst (A 83) cc = kq := hF9.trans (sp_find_t (decide_eq_true c28))
                refine z_iload_n (j := 4) o dX7_first_63 rfl ?_
                refine z_ifne (tgt := 71) o dX7_first_64 (by decide) (fun c33 => ?_) (fun c33 => ?_)
                · have hbw : w = 1 := two_one (zin_in c8 c12) c33
                  obtain rfl : w = 1 := hbw
                  refine z_iload (j := 0) o dX7_first_71 rfl ?_
                  have hS : sq_first A (nI cc) 1 = ((sp_brand (sp_movesN (A 83) kq) cc), A) := by
                    unfold sq_first; (try rw [zn_nI (n := cc) (by omega)]); rw [if_neg c4, if_neg (zin_in c8 c12), hfst, if_neg (show ¬ (60 : Int32) < nI kq from nI_nlt (a := 60) (by omega) (by omega)), if_neg (show ¬ (1 : Int32) = 0 by decide)] <;> (try rfl)
                  exact kret _ _ _ _ dX7_first_73 ⟨M1, N24, rfl, by rw [hS], by rw [hS]; exact (hR.th h1 h2n hg2), ((zHi.rf (M := M)).fr h1 (by decide))⟩
                · obtain rfl : w = 0 := c33
                  refine z_iload_n (j := 1) o dX7_first_67 rfl ?_
                  refine z_goto (tgt := 73) o dX7_first_68 (by decide) ?_
                  have hS : sq_first A (nI cc) 0 = ((nI kq), A) := by
                    unfold sq_first; (try rw [zn_nI (n := cc) (by omega)]); rw [if_neg c4, if_neg (zin_in c8 c12), hfst, if_neg (show ¬ (60 : Int32) < nI kq from nI_nlt (a := 60) (by omega) (by omega)), if_pos rfl] <;> (try rfl)
                  exact kret _ _ _ _ dX7_first_73 ⟨M1, N24, rfl, by rw [hS], by rw [hS]; exact (hR.th h1 h2n hg2), ((zHi.rf (M := M)).fr h1 (by decide))⟩
        refine zo_lv [0, 1, 2, 3] rfl ?_
        exact LOOP 61 0 (by omega) M9 N9 f9 n9 g9 rfl
      · refine z_aload_n (j := 0) o dX7_first_16 rfl ?_
        refine z_iconst (v := 1) o dX7_first_17 (by decide) ?_
        refine z_callVi (As := [.int 1]) (n := 1) (st := []) o dX7_first_18 (c_X7_error hB M N 1 (by decide) (by decide)) zc_X7_54 (by decide) (i := 0) (by rw [hB]; exact zsh_lt rfl (by decide)) (zg_o rfl (by decide)) rfl rfl rfl (Nat.le_of_ble_eq_true rfl) (fun r34 g35 p36 => ?_)
        obtain ⟨rfl, rfl⟩ := p36
        have hS : sq_first A (nI cc) w = ((zE 1), zEr A 1) := by
          unfold sq_first; (try rw [zn_nI (n := cc) (by omega)]); rw [if_neg c4, if_pos (zin_hi c12)] <;> (try rfl)
        exact kret _ _ _ _ dX7_first_21 ⟨zu M 73 1 (M 73 1 + 1), N, rfl, by rw [hS], by rw [hS]; exact (hR).er (k := 1) (by decide), ((zHi.rf (M := M))).zu (by decide)⟩

