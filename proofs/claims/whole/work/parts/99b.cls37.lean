/-! the class: its calls (11): a way, fits -/
theorem has_0 {x : Int64} {c : Int32} : cg_has x c = 0 ↔ zlushr x c &&& 1 = 0 := by
  unfold cg_has
  by_cases h : zlushr x c &&& 1 = 0
  · rw [if_pos h]; exact ⟨fun _ => h, fun _ => rfl⟩
  · rw [if_neg h]; exact ⟨fun q => absurd q (by decide), fun q => absurd q h⟩
theorem movesN_np {ρ : Nat → Int32} (h : zOkR ρ) {i : Nat} (hi : i < 4) (k : Nat) : sp_np (sp_movesN ρ k) i = sp_np ρ i := by
  unfold sp_np; rw [sp_movesN_ne h (by omega) (fun i2 p _ _ => by omega)]
set_option maxHeartbeats 4000000 in
set_option maxRecDepth 100000 in
theorem k_way {B : zB} (hB : znn B = 95) (M : zM) (N : zN) (A : zM) (c : Int32) (t : Int32) (hR : zRl M N A) (hok : zOkAll (A 83)) : zCi B (zg B M N) yX7_way cX7_way 6 (some .int) 4 [zref B 0, .int c, .int t] (fun r g' => ∃ (M1 : zM) (N1 : zN), g' = zg B M1 N1 ∧ r = (sq_way A c t).1 ∧ zRl M1 N1 (sq_way A c t).2 ∧ zHi M M1) := by
  refine zCi_of (by decide +kernel) (Nat.le_of_ble_eq_true rfl) .int rfl (fun _ _ _ => rfl) ?_
  intro X o kret
  show zW X B (zg B M N) 0 [(0, zref B 0), (1, .int c), (2, .int t)] []
  obtain ⟨hnf, hnf4⟩ := ok_nf2 hok.1
  obtain ⟨hnc, hnc6⟩ := ok_nc2 hok.1
  obtain ⟨hnt, hnt60⟩ := ok_nt2 hok.1
  obtain ⟨hnw, hnw24⟩ := ok_nw2 hok.1
  have hF : ∀ i, i < 4 → zFn (9 + 2 * i) M (A 83) i := fun i hi => hR.1.2.1 i hi
  refine z_aload_n (j := 0) o dX7_way_0 rfl ?_
  refine z_iload_n (j := 1) o dX7_way_1 rfl ?_
  refine z_callVi (As := [.int c]) (n := 1) (st := []) o dX7_way_2 (c_X7_isCow hB M N A c hR hok.1) zc_X7_152 (by decide) (i := 0) (by rw [hB]; exact zsh_lt rfl (by decide)) (zg_o rfl (by decide)) rfl rfl rfl (Nat.le_of_ble_eq_true rfl) (fun r1 g2 p3 => ?_)
  obtain ⟨rfl, rfl⟩ := p3
  refine z_ifeq (tgt := 15) o dX7_way_5 (by decide) (fun c4 => ?_) (fun c4 => ?_)
  · refine z_aload_n (j := 0) o dX7_way_15 rfl ?_
    refine z_iconst (v := 1) o dX7_way_16 (by decide) ?_
    refine z_callVi (As := [.int 1]) (n := 1) (st := []) o dX7_way_17 (c_X7_error hB M N 1 (by decide) (by decide)) zc_X7_54 (by decide) (i := 0) (by rw [hB]; exact zsh_lt rfl (by decide)) (zg_o rfl (by decide)) rfl rfl rfl (Nat.le_of_ble_eq_true rfl) (fun r5 g6 p7 => ?_)
    obtain ⟨rfl, rfl⟩ := p7
    have hS : sq_way A c t = ((zE 1), zEr A 1) := by
      unfold sq_way;  rw [if_pos c4] <;> (try rfl)
    exact kret _ _ _ _ dX7_way_20 ⟨zu M 73 1 (M 73 1 + 1), N, rfl, by rw [hS], by rw [hS]; exact (hR).er (k := 1) (by decide), ((zHi.rf (M := M))).zu (by decide)⟩
  · have hzc := c4
    rw [hnc] at hzc
    obtain ⟨ca, hca, eca⟩ := zin_nat (by omega) hzc
    subst eca
    refine z_iload_n (j := 2) o dX7_way_8 rfl ?_
    refine z_callSi (As := [.int t]) (n := 1) (st := []) o dX7_way_9 (c_X1_isCell hB M N t) zc_X7_75 (by decide) rfl rfl (Nat.le_of_ble_eq_true rfl) (fun r8 g9 p10 => ?_)
    obtain ⟨rfl, rfl⟩ := p10
    refine zo_rw (y := zin t 0 63) (cg_cell_eq _) ?_
    refine z_ifne (tgt := 21) o dX7_way_12 (by decide) (fun c11 => ?_) (fun c11 => ?_)
    · obtain ⟨ta, hta, eta⟩ := zin_lit (n := 63) rfl (by decide) c11
      subst eta
      refine z_aload_n (j := 0) o dX7_way_21 rfl ?_
      refine zo_get (i := 0) o hB dX7_way_22 zf_X7_19 rfl (by decide) (rfl) ?_
      refine z_aload_n (j := 0) o dX7_way_25 rfl ?_
      refine zo_get (i := 0) o hB dX7_way_26 zf_X7_10 rfl (by decide) (rfl) ?_
      refine z_callVv (As := [zref B 1]) (n := 1) (st := []) o dX7_way_29 (c_X3_takeAll hB M N 45 1 (A 83) rfl rfl (Or.inr (by decide)) hok hR.1 (fun u hu => (hR.2.2.1 u hu).2)) zc_X7_213 (by decide) (i := 45) (by rw [hB]; exact zsh_lt rfl (by decide)) (zg_o rfl (by decide)) rfl rfl rfl (Nat.le_of_ble_eq_true rfl) (fun g13 p14 => ?_)
      obtain ⟨M9, N9, rfl, f9, n9, g9⟩ := p14
      refine z_aload_n (j := 0) o dX7_way_32 rfl ?_
      refine zo_get (i := 0) o hB dX7_way_33 zf_X7_10 rfl (by decide) (rfl) ?_
      refine zo_get (i := 1) o hB dX7_way_36 zf_X7_146 rfl (by decide) (rfl) ?_
      refine z_iload_n (j := 1) o dX7_way_39 rfl ?_
      refine zo_iald (i := 3) (j := ca) o hB dX7_way_40 rfl (show ca < 6 by omega) (by decide) ?_
      refine zo_rw (y := A 83 (58 + 2 * ca)) ((by rw [f9 3 (by decide)]; exact (hR.1.2.2.1 ca (by omega)).1)) ?_
      refine z_callSl (As := [.int (A 83 (58 + 2 * ca))]) (n := 1) (st := []) o dX7_way_41 (c_X1_bit hB M9 N9 (A 83 (58 + 2 * ca))) zc_X7_133 (by decide) rfl rfl (Nat.le_of_ble_eq_true rfl) (fun r15 g16 p17 => ?_)
      obtain ⟨rfl, rfl⟩ := p17
      refine z_lstore_n (i := 3) (lv2 := [(3, .long (zlshl 1 (A 83 (58 + 2 * ca)))), (0, zref B 0), (1, .int (nI ca)), (2, .int (nI ta))]) o dX7_way_44 rfl (by decide) rfl ?_
      refine z_iconst (v := 0) o dX7_way_45 (by decide) ?_
      refine z_istore (i := 5) (lv2 := [(5, .int 0), (3, .long (zlshl 1 (A 83 (58 + 2 * ca)))), (0, zref B 0), (1, .int (nI ca)), (2, .int (nI ta))]) o dX7_way_46 (by decide) rfl ?_
      have LOOP : ∀ nq kq : Nat, kq + nq = 61 → ∀ (M1 : zM) (N1 : zN), zFr 45 M M1 → zFrN 45 N N1 → zRg 45 M1 N1 (sp_movesN (A 83) kq) → sp_wayN (A 83) (zlshl 1 (A 83 (58 + 2 * ca))) ta = sp_find (fun k => decide (¬ zlushr (sp_cm (A 83) (zlshl 1 (A 83 (58 + 2 * ca))) k) (nI ta) &&& 1 = 0)) nq kq → zW X B (zg B M1 N1) 48 [(5, .int (nI kq)), (0, zref B 0), (1, .int (nI ca)), (2, .int (nI ta)), (3, .long (sp_cm (A 83) (zlshl 1 (A 83 (58 + 2 * ca))) kq))] [] := by
        intro nq
        induction nq with
        | zero =>
          intro kq hkq M1 N1 h1 h1n hg1 hF9
          obtain rfl : kq = 61 := by omega
          have hF9 : sp_wayN (A 83) (zlshl 1 (A 83 (58 + 2 * ca))) ta = 61 := hF9
          refine z_iload (j := 0) o dX7_way_48 rfl ?_
          refine z_bipush (v := 60) o dX7_way_50 (by decide) ?_
          refine z_icmpgt (tgt := 98) o dX7_way_52 (by decide) (fun c18 => ?_) (fun c18 => ?_)
          · refine z_aload_n (j := 1) o dX7_way_98 rfl ?_
            refine z_iconst (v := 2) o dX7_way_99 (by decide) ?_
            refine z_callVi (As := [.int 2]) (n := 1) (st := []) o dX7_way_100 (c_X7_error hB M1 N1 2 (by decide) (by decide)) zc_X7_54 (by decide) (i := 0) (by rw [hB]; exact zsh_lt rfl (by decide)) (zg_o rfl (by decide)) rfl rfl rfl (Nat.le_of_ble_eq_true rfl) (fun r19 g20 p21 => ?_)
            obtain ⟨rfl, rfl⟩ := p21
            have hS : sq_way A (nI ca) (nI ta) = ((zE 2), zEr A 2) := by
              unfold sq_way; (try rw [zn_nI (n := ca) (by omega)]); (try rw [zn_nI (n := ta) (by omega)]); rw [if_neg c4, if_neg c11, hF9, if_pos (show (60 : Int32) < nI 61 by decide)] <;> (try rfl)
            exact kret _ _ _ _ dX7_way_103 ⟨zu M1 73 2 (M1 73 2 + 1), N1, rfl, by rw [hS], by rw [hS]; exact ((hR.th h1 h1n hg1)).er (k := 2) (by decide), (((zHi.rf (M := M)).fr h1 (by decide))).zu (by decide)⟩
          · exact absurd (nI_lt (a := 60) (b := 61) (by omega) (by omega)) c18
        | succ nq ih =>
          intro kq hkq M1 N1 h1 h1n hg1 hF9
          have hlt : kq ≤ 60 := by omega
          refine z_iload (j := 0) o dX7_way_48 rfl ?_
          refine z_bipush (v := 60) o dX7_way_50 (by decide) ?_
          refine z_icmpgt (tgt := 98) o dX7_way_52 (by decide) (fun c22 => ?_) (fun c22 => ?_)
          · exact absurd c22 (nI_nlt (a := 60) (b := kq) (by omega) (by omega))
          · refine z_lload_n (j := 4) o dX7_way_55 rfl ?_
            refine z_iload_n (j := 3) o dX7_way_56 rfl ?_
            refine z_callSi (As := [.long (sp_cm (A 83) (zlshl 1 (A 83 (58 + 2 * ca))) kq), .int (nI ta)]) (n := 2) (st := []) o dX7_way_57 (c_X1_has hB M1 N1 (sp_cm (A 83) (zlshl 1 (A 83 (58 + 2 * ca))) kq) (nI ta)) zc_X7_139 (by decide) rfl rfl (Nat.le_of_ble_eq_true rfl) (fun r23 g24 p25 => ?_)
            obtain ⟨rfl, rfl⟩ := p25
            refine z_ifeq (tgt := 66) o dX7_way_60 (by decide) (fun c26 => ?_) (fun c26 => ?_)
            · refine z_aload_n (j := 1) o dX7_way_66 rfl ?_
              refine zo_get (i := 0) o hB dX7_way_67 zf_X7_19 rfl (by decide) (rfl) ?_
              refine z_callVv (As := []) (n := 0) (st := []) o dX7_way_70 (c_X3_postsMove hB M1 N1 45 (sp_movesN (A 83) kq) rfl (ok_movesN hok.1 kq) hg1) zc_X7_217 (by decide) (i := 45) (by rw [hB]; exact zsh_lt rfl (by decide)) (zg_o rfl (by decide)) rfl rfl rfl (Nat.le_of_ble_eq_true rfl) (fun g28 p29 => ?_)
              obtain ⟨M30, rfl, fM30, gM30⟩ := p29
              have h3 : zFr 45 M M30 := h1.tr fM30
              have hg3 : zRg 45 M30 N1 (sp_movesN (A 83) (kq + 1)) := gM30
              refine z_lload_n (j := 4) o dX7_way_73 rfl ?_
              refine z_lload_n (j := 4) o dX7_way_74 rfl ?_
              refine z_callSl (As := [.long (sp_cm (A 83) (zlshl 1 (A 83 (58 + 2 * ca))) kq)]) (n := 1) (st := [.long (sp_cm (A 83) (zlshl 1 (A 83 (58 + 2 * ca))) kq)]) o dX7_way_75 (c_X1_beside hB M30 N1 (sp_cm (A 83) (zlshl 1 (A 83 (58 + 2 * ca))) kq)) zc_X7_227 (by decide) rfl rfl (Nat.le_of_ble_eq_true rfl) (fun r31 g32 p33 => ?_)
              obtain ⟨rfl, rfl⟩ := p33
              refine z_aload_n (j := 1) o dX7_way_78 rfl ?_
              refine zo_get (i := 0) o hB dX7_way_79 zf_X7_19 rfl (by decide) (rfl) ?_
              refine z_callVl (As := []) (n := 0) (st := [.long (sp_beside (sp_cm (A 83) (zlshl 1 (A 83 (58 + 2 * ca))) kq)), .long (sp_cm (A 83) (zlshl 1 (A 83 (58 + 2 * ca))) kq)]) o dX7_way_82 (c_X3_standing hB M30 N1 45 (sp_movesN (A 83) (kq + 1)) rfl (ok_movesN hok.1 (kq + 1)) hg3) zc_X7_231 (by decide) (i := 45) (by rw [hB]; exact zsh_lt rfl (by decide)) (zg_o rfl (by decide)) rfl rfl rfl (Nat.le_of_ble_eq_true rfl) (fun r34 g35 p36 => ?_)
              obtain ⟨rfl, rfl⟩ := p36
              refine z_ldc2 (v := (-1)) o dX7_way_85 zk_X7_137 ?_
              refine z_lxor o dX7_way_88 ?_
              refine z_land o dX7_way_89 ?_
              refine z_lor o dX7_way_90 ?_
              refine z_lstore_n (i := 3) (lv2 := [(3, .long ((sp_cm (A 83) (zlshl 1 (A 83 (58 + 2 * ca))) kq) ||| ((sp_beside (sp_cm (A 83) (zlshl 1 (A 83 (58 + 2 * ca))) kq)) &&& ((sp_allp (sp_movesN (A 83) (kq + 1)) (sp_nf (sp_movesN (A 83) (kq + 1)))) ^^^ (-1))))), (5, .int (nI kq)), (0, zref B 0), (1, .int (nI ca)), (2, .int (nI ta))]) o dX7_way_91 rfl (by decide) rfl ?_
              refine z_iinc (j := 1) (v := nI (kq + 1)) (lv2 := [(5, .int (nI (kq + 1))), (3, .long ((sp_cm (A 83) (zlshl 1 (A 83 (58 + 2 * ca))) kq) ||| ((sp_beside (sp_cm (A 83) (zlshl 1 (A 83 (58 + 2 * ca))) kq)) &&& ((sp_allp (sp_movesN (A 83) (kq + 1)) (sp_nf (sp_movesN (A 83) (kq + 1)))) ^^^ (-1))))), (0, zref B 0), (1, .int (nI ca)), (2, .int (nI ta))]) o dX7_way_92 rfl (zn_ofInt _) (by decide) rfl ?_
              refine z_goto (tgt := 48) o dX7_way_95 (by decide) ?_
              refine zo_lv [0, 2, 3, 4, 1] rfl ?_
              exact ih (kq + 1) (by omega) _ _ h3 h1n hg3 (hF9.trans (sp_find_f (decide_eq_false (fun q => q (has_0.mp c26)))))
            · have hfst : sp_wayN (A 83) (zlshl 1 (A 83 (58 + 2 * ca))) ta = kq := hF9.trans (sp_find_t (decide_eq_true (fun q => c26 (has_0.mpr q))))
              refine z_iload (j := 0) o dX7_way_63 rfl ?_
              have hS : sq_way A (nI ca) (nI ta) = ((nI kq), A) := by
                unfold sq_way; (try rw [zn_nI (n := ca) (by omega)]); (try rw [zn_nI (n := ta) (by omega)]); rw [if_neg c4, if_neg c11, hfst, if_neg (show ¬ (60 : Int32) < nI kq from nI_nlt (a := 60) (by omega) (by omega))] <;> (try rfl)
              exact kret _ _ _ _ dX7_way_65 ⟨M1, N1, rfl, by rw [hS], by rw [hS]; exact (hR.th h1 h1n hg1), ((zHi.rf (M := M)).fr h1 (by decide))⟩
      refine zo_lv [0, 2, 3, 4, 1] rfl ?_
      exact LOOP 61 0 (by omega) M9 N9 f9 n9 g9 rfl
    · refine z_aload_n (j := 0) o dX7_way_15 rfl ?_
      refine z_iconst (v := 1) o dX7_way_16 (by decide) ?_
      refine z_callVi (As := [.int 1]) (n := 1) (st := []) o dX7_way_17 (c_X7_error hB M N 1 (by decide) (by decide)) zc_X7_54 (by decide) (i := 0) (by rw [hB]; exact zsh_lt rfl (by decide)) (zg_o rfl (by decide)) rfl rfl rfl (Nat.le_of_ble_eq_true rfl) (fun r37 g38 p39 => ?_)
      obtain ⟨rfl, rfl⟩ := p39
      have hS : sq_way A (nI ca) t = ((zE 1), zEr A 1) := by
        unfold sq_way; (try rw [zn_nI (n := ca) (by omega)]); rw [if_neg c4, if_pos c11] <;> (try rfl)
      exact kret _ _ _ _ dX7_way_20 ⟨zu M 73 1 (M 73 1 + 1), N, rfl, by rw [hS], by rw [hS]; exact (hR).er (k := 1) (by decide), ((zHi.rf (M := M))).zu (by decide)⟩

set_option maxHeartbeats 4000000 in
set_option maxRecDepth 100000 in
theorem k_fits {B : zB} (hB : znn B = 95) (M : zM) (N : zN) (A : zM) (s : Int32) (f : Int32) (hR : zRl M N A) (hok : zOkAll (A 83)) (hsh : zShOk A) : zCi B (zg B M N) yX7_fits cX7_fits 4 (some .int) 4 [zref B 0, .int s, .int f] (fun r g' => ∃ (M1 : zM) (N1 : zN), g' = zg B M1 N1 ∧ r = (sq_fits A s f).1 ∧ zRl M1 N1 (sq_fits A s f).2 ∧ zHi M M1) := by
  refine zCi_of (by decide +kernel) (Nat.le_of_ble_eq_true rfl) .int rfl (fun _ _ _ => rfl) ?_
  intro X o kret
  show zW X B (zg B M N) 0 [(0, zref B 0), (1, .int s), (2, .int f)] []
  obtain ⟨hnf, hnf4⟩ := ok_nf2 hok.1
  obtain ⟨hnc, hnc6⟩ := ok_nc2 hok.1
  obtain ⟨hnt, hnt60⟩ := ok_nt2 hok.1
  obtain ⟨hnw, hnw24⟩ := ok_nw2 hok.1
  have hF : ∀ i, i < 4 → zFn (9 + 2 * i) M (A 83) i := fun i hi => hR.1.2.1 i hi
  refine z_iload_n (j := 1) o dX7_fits_0 rfl ?_
  refine z_callSi (As := [.int s]) (n := 1) (st := []) o dX7_fits_1 (c_X7_isSheet hB M N s) zc_X7_235 (by decide) rfl rfl (Nat.le_of_ble_eq_true rfl) (fun r1 g2 p3 => ?_)
  obtain ⟨rfl, rfl⟩ := p3
  refine z_ifeq (tgt := 15) o dX7_fits_4 (by decide) (fun c4 => ?_) (fun c4 => ?_)
  · refine z_aload_n (j := 0) o dX7_fits_15 rfl ?_
    refine z_iconst (v := 1) o dX7_fits_16 (by decide) ?_
    refine z_callVi (As := [.int 1]) (n := 1) (st := []) o dX7_fits_17 (c_X7_error hB M N 1 (by decide) (by decide)) zc_X7_54 (by decide) (i := 0) (by rw [hB]; exact zsh_lt rfl (by decide)) (zg_o rfl (by decide)) rfl rfl rfl (Nat.le_of_ble_eq_true rfl) (fun r5 g6 p7 => ?_)
    obtain ⟨rfl, rfl⟩ := p7
    have hS : sq_fits A s f = ((zE 1), zEr A 1) := by
      unfold sq_fits;  rw [if_pos c4] <;> (try rfl)
    exact kret _ _ _ _ dX7_fits_20 ⟨zu M 73 1 (M 73 1 + 1), N, rfl, by rw [hS], by rw [hS]; exact (hR).er (k := 1) (by decide), ((zHi.rf (M := M))).zu (by decide)⟩
  · obtain ⟨sa, hsa, esa⟩ := zin_lit (n := 3) rfl (by decide) c4
    subst esa
    obtain ⟨hszsa, hs24sa⟩ := sh_n2 hsh (s := sa) (by omega)
    refine z_aload_n (j := 0) o dX7_fits_7 rfl ?_
    refine z_iload_n (j := 2) o dX7_fits_8 rfl ?_
    refine z_callVi (As := [.int f]) (n := 1) (st := []) o dX7_fits_9 (c_X7_isFence hB M N A f hR hok.1) zc_X7_72 (by decide) (i := 0) (by rw [hB]; exact zsh_lt rfl (by decide)) (zg_o rfl (by decide)) rfl rfl rfl (Nat.le_of_ble_eq_true rfl) (fun r8 g9 p10 => ?_)
    obtain ⟨rfl, rfl⟩ := p10
    refine z_ifne (tgt := 21) o dX7_fits_12 (by decide) (fun c11 => ?_) (fun c11 => ?_)
    · have hzf := c11
      rw [hnf] at hzf
      obtain ⟨fa, hfa, efa⟩ := zin_nat (by omega) hzf
      subst efa
      obtain ⟨hnpfa, hnp8⟩ := ok_np2 hok.1 (i := fa) (by omega)
      refine z_aload_n (j := 0) o dX7_fits_21 rfl ?_
      refine zo_get (i := 0) o hB dX7_fits_22 zf_X7_38 rfl (by decide) (rfl) ?_
      refine z_iload_n (j := 1) o dX7_fits_25 rfl ?_
      refine zo_aldS (i := 72) (j := sa) o hB dX7_fits_26 rfl (show sa < 4 by omega) (by decide) ?_
      refine zo_get (i := 74 + 2 * sa) o hB dX7_fits_27 zf_X7_238 (zh_sheet (by omega)) (by decide) (rfl) ?_
      refine zo_rw (y := A 87 sa) ((hR.2.2.2.2.2.2 sa (by omega)).2.1) ?_
      refine z_ifne (tgt := 39) o dX7_fits_30 (by decide) (fun c12 => ?_) (fun c12 => ?_)
      · refine z_aload_n (j := 0) o dX7_fits_39 rfl ?_
        refine zo_get (i := 0) o hB dX7_fits_40 zf_X7_19 rfl (by decide) (rfl) ?_
        refine z_aload_n (j := 0) o dX7_fits_43 rfl ?_
        refine zo_get (i := 0) o hB dX7_fits_44 zf_X7_10 rfl (by decide) (rfl) ?_
        refine z_callVv (As := [zref B 1]) (n := 1) (st := []) o dX7_fits_47 (c_X3_takeAll hB M N 45 1 (A 83) rfl rfl (Or.inr (by decide)) hok hR.1 (fun u hu => (hR.2.2.1 u hu).2)) zc_X7_213 (by decide) (i := 45) (by rw [hB]; exact zsh_lt rfl (by decide)) (zg_o rfl (by decide)) rfl rfl rfl (Nat.le_of_ble_eq_true rfl) (fun g14 p15 => ?_)
        obtain ⟨M9, N9, rfl, f9, n9, g9⟩ := p15
        refine z_iconst (v := 0) o dX7_fits_50 (by decide) ?_
        refine z_istore_n (i := 3) (lv2 := [(3, .int 0), (0, zref B 0), (1, .int (nI sa)), (2, .int (nI fa))]) o dX7_fits_51 rfl (by decide) rfl ?_
        by_cases hsz9 : A 88 sa = A 83 (6 + 13 * fa + 3)
        · have hshn : sh_n A sa = sp_np (A 83) fa := (nI_eq (by omega) (by omega)).mp (hszsa.symm.trans (hsz9.trans hnpfa))
          have LOOP : ∀ nq kq : Nat, kq + nq = 61 → ∀ (M1 : zM) (N1 : zN), zFr 45 M M1 → zFrN 45 N N1 → zRg 45 M1 N1 (sp_movesN (A 83) kq) → sp_fit (A 89) (A 83) sa fa (sh_n A sa) = sp_find (fun k => decide (¬ sp_so (A 89) (sp_movesN (A 83) k) sa fa (sh_n A sa) = 0)) nq kq → zW X B (zg B M1 N1) 52 [(3, .int (nI kq)), (0, zref B 0), (1, .int (nI sa)), (2, .int (nI fa))] [] := by
            intro nq
            induction nq with
            | zero =>
              intro kq hkq M1 N1 h1 h1n hg1 hF9
              obtain rfl : kq = 61 := by omega
              have hF9 : sp_fit (A 89) (A 83) sa fa (sh_n A sa) = 61 := hF9
              refine z_iload_n (j := 0) o dX7_fits_52 rfl ?_
              refine z_bipush (v := 60) o dX7_fits_53 (by decide) ?_
              refine z_icmpgt (tgt := 94) o dX7_fits_55 (by decide) (fun c16 => ?_) (fun c16 => ?_)
              · refine z_aload_n (j := 1) o dX7_fits_94 rfl ?_
                refine z_iconst (v := 2) o dX7_fits_95 (by decide) ?_
                refine z_callVi (As := [.int 2]) (n := 1) (st := []) o dX7_fits_96 (c_X7_error hB M1 N1 2 (by decide) (by decide)) zc_X7_54 (by decide) (i := 0) (by rw [hB]; exact zsh_lt rfl (by decide)) (zg_o rfl (by decide)) rfl rfl rfl (Nat.le_of_ble_eq_true rfl) (fun r17 g18 p19 => ?_)
                obtain ⟨rfl, rfl⟩ := p19
                have hS : sq_fits A (nI sa) (nI fa) = ((zE 2), zEr A 2) := by
                  unfold sq_fits; (try rw [zn_nI (n := sa) (by omega)]); (try rw [zn_nI (n := fa) (by omega)]); rw [if_neg c4, if_neg c11, if_neg c12, if_pos hsz9, hF9, if_pos (show (60 : Int32) < nI 61 by decide)] <;> (try rfl)
                exact kret _ _ _ _ dX7_fits_99 ⟨zu M1 73 2 (M1 73 2 + 1), N1, rfl, by rw [hS], by rw [hS]; exact ((hR.th h1 h1n hg1)).er (k := 2) (by decide), (((zHi.rf (M := M)).fr h1 (by decide))).zu (by decide)⟩
              · exact absurd (nI_lt (a := 60) (b := 61) (by omega) (by omega)) c16
            | succ nq ih =>
              intro kq hkq M1 N1 h1 h1n hg1 hF9
              have hlt : kq ≤ 60 := by omega
              refine z_iload_n (j := 0) o dX7_fits_52 rfl ?_
              refine z_bipush (v := 60) o dX7_fits_53 (by decide) ?_
              refine z_icmpgt (tgt := 94) o dX7_fits_55 (by decide) (fun c20 => ?_) (fun c20 => ?_)
              · exact absurd c20 (nI_nlt (a := 60) (b := kq) (by omega) (by omega))
              · refine z_aload_n (j := 1) o dX7_fits_58 rfl ?_
                refine zo_get (i := 0) o hB dX7_fits_59 zf_X7_38 rfl (by decide) (rfl) ?_
                refine z_iload_n (j := 2) o dX7_fits_62 rfl ?_
                refine zo_aldS (i := 72) (j := sa) o hB dX7_fits_63 rfl (show sa < 4 by omega) (by decide) ?_
                refine z_aload_n (j := 1) o dX7_fits_64 rfl ?_
                refine zo_get (i := 0) o hB dX7_fits_65 zf_X7_19 rfl (by decide) (rfl) ?_
                refine zo_get (i := 45) o hB dX7_fits_68 zf_X7_62 rfl (by decide) (rfl) ?_
                refine z_iload_n (j := 3) o dX7_fits_71 rfl ?_
                refine zo_aldF (i := 46) (j := fa) o hB dX7_fits_72 rfl (show fa < 4 by omega) (by decide) ?_
                refine z_callVi (As := [zref B (53 + 2 * fa)]) (n := 1) (st := []) o dX7_fits_73 (c_X4_tells hB M1 N1 (74 + 2 * sa) (53 + 2 * fa) sa fa (A 89) (sp_movesN (A 83) kq) (zh_sheet (by omega)) ((zh_R (r := 45) rfl).2.2.2.2.2.2.2.1 fa (by omega)) (by omega) (ok_movesN hok.1 kq) (fun k hk => by have := (hR.2.2.2.2.2.2 sa (by omega)).2.2 k hk; rw [show 75 + 2 * sa = 74 + 2 * sa + 1 by omega] at this; rw [h1 _ (by omega)]; exact this) (hg1.2.1 fa (by omega))) zc_X7_241 (by decide) (i := 74 + 2 * sa) (by rw [hB]; exact zsh_lt (zh_sheet (by omega)) (by decide)) (zg_o (zh_sheet (by omega)) (by decide)) rfl rfl rfl (Nat.le_of_ble_eq_true rfl) (fun r21 g22 p23 => ?_)
                obtain ⟨rfl, rfl⟩ := p23
                have e88 : M1 (74 + 2 * sa) 1 = A 88 sa := by rw [h1 _ (by omega)]; exact (hR.2.2.2.2.2.2 sa (by omega)).1
                have e83 : sp_movesN (A 83) kq (6 + 13 * fa + 3) = A 83 (6 + 13 * fa + 3) := sp_movesN_ne hok.1 (by omega) (fun i2 p _ _ => by omega) kq
                refine zo_rw (y := sp_so (A 89) (sp_movesN (A 83) kq) sa fa (sh_n A sa)) (by rw [e88, e83, if_pos hsz9, movesN_np hok.1 (by omega), ← hshn]) ?_
                refine z_ifeq (tgt := 81) o dX7_fits_76 (by decide) (fun c24 => ?_) (fun c24 => ?_)
                · refine z_aload_n (j := 1) o dX7_fits_81 rfl ?_
                  refine zo_get (i := 0) o hB dX7_fits_82 zf_X7_19 rfl (by decide) (rfl) ?_
                  refine z_callVv (As := []) (n := 0) (st := []) o dX7_fits_85 (c_X3_postsMove hB M1 N1 45 (sp_movesN (A 83) kq) rfl (ok_movesN hok.1 kq) hg1) zc_X7_217 (by decide) (i := 45) (by rw [hB]; exact zsh_lt rfl (by decide)) (zg_o rfl (by decide)) rfl rfl rfl (Nat.le_of_ble_eq_true rfl) (fun g26 p27 => ?_)
                  obtain ⟨M28, rfl, fM28, gM28⟩ := p27
                  have h3 : zFr 45 M M28 := h1.tr fM28
                  have hg3 : zRg 45 M28 N1 (sp_movesN (A 83) (kq + 1)) := gM28
                  refine z_iinc (j := 0) (v := nI (kq + 1)) (lv2 := [(3, .int (nI (kq + 1))), (0, zref B 0), (1, .int (nI sa)), (2, .int (nI fa))]) o dX7_fits_88 rfl (zn_ofInt _) (by decide) rfl ?_
                  refine z_goto (tgt := 52) o dX7_fits_91 (by decide) ?_
                  refine zo_lv [0, 1, 2, 3] rfl ?_
                  exact ih (kq + 1) (by omega) _ _ h3 h1n hg3 (hF9.trans (sp_find_f (decide_eq_false (fun q => q c24))))
                · have hfst : sp_fit (A 89) (A 83) sa fa (sh_n A sa) = kq := hF9.trans (sp_find_t (decide_eq_true c24))
                  refine z_iload_n (j := 0) o dX7_fits_79 rfl ?_
                  have hS : sq_fits A (nI sa) (nI fa) = ((nI kq), A) := by
                    unfold sq_fits; (try rw [zn_nI (n := sa) (by omega)]); (try rw [zn_nI (n := fa) (by omega)]); rw [if_neg c4, if_neg c11, if_neg c12, if_pos hsz9, hfst, if_neg (show ¬ (60 : Int32) < nI kq from nI_nlt (a := 60) (by omega) (by omega))] <;> (try rfl)
                  exact kret _ _ _ _ dX7_fits_80 ⟨M1, N1, rfl, by rw [hS], by rw [hS]; exact (hR.th h1 h1n hg1), ((zHi.rf (M := M)).fr h1 (by decide))⟩
          refine zo_lv [0, 1, 2, 3] rfl ?_
          exact LOOP 61 0 (by omega) M9 N9 f9 n9 g9 rfl
        · have LOOP : ∀ nq kq : Nat, kq + nq = 61 → ∀ (M1 : zM) (N1 : zN), zFr 45 M M1 → zFrN 45 N N1 → zRg 45 M1 N1 (sp_movesN (A 83) kq) → sp_find (fun k => decide (k = 99)) 61 0 = sp_find (fun k => decide (k = 99)) nq kq → zW X B (zg B M1 N1) 52 [(3, .int (nI kq)), (0, zref B 0), (1, .int (nI sa)), (2, .int (nI fa))] [] := by
            intro nq
            induction nq with
            | zero =>
              intro kq hkq M1 N1 h1 h1n hg1 hF9
              obtain rfl : kq = 61 := by omega
              have hF9 : sp_find (fun k => decide (k = 99)) 61 0 = 61 := hF9
              refine z_iload_n (j := 0) o dX7_fits_52 rfl ?_
              refine z_bipush (v := 60) o dX7_fits_53 (by decide) ?_
              refine z_icmpgt (tgt := 94) o dX7_fits_55 (by decide) (fun c29 => ?_) (fun c29 => ?_)
              · refine z_aload_n (j := 1) o dX7_fits_94 rfl ?_
                refine z_iconst (v := 2) o dX7_fits_95 (by decide) ?_
                refine z_callVi (As := [.int 2]) (n := 1) (st := []) o dX7_fits_96 (c_X7_error hB M1 N1 2 (by decide) (by decide)) zc_X7_54 (by decide) (i := 0) (by rw [hB]; exact zsh_lt rfl (by decide)) (zg_o rfl (by decide)) rfl rfl rfl (Nat.le_of_ble_eq_true rfl) (fun r30 g31 p32 => ?_)
                obtain ⟨rfl, rfl⟩ := p32
                have hS : sq_fits A (nI sa) (nI fa) = ((zE 2), zEr A 2) := by
                  unfold sq_fits; (try rw [zn_nI (n := sa) (by omega)]); (try rw [zn_nI (n := fa) (by omega)]); rw [if_neg c4, if_neg c11, if_neg c12, if_neg hsz9] <;> (try rfl)
                exact kret _ _ _ _ dX7_fits_99 ⟨zu M1 73 2 (M1 73 2 + 1), N1, rfl, by rw [hS], by rw [hS]; exact ((hR.th h1 h1n hg1)).er (k := 2) (by decide), (((zHi.rf (M := M)).fr h1 (by decide))).zu (by decide)⟩
              · exact absurd (nI_lt (a := 60) (b := 61) (by omega) (by omega)) c29
            | succ nq ih =>
              intro kq hkq M1 N1 h1 h1n hg1 hF9
              have hlt : kq ≤ 60 := by omega
              refine z_iload_n (j := 0) o dX7_fits_52 rfl ?_
              refine z_bipush (v := 60) o dX7_fits_53 (by decide) ?_
              refine z_icmpgt (tgt := 94) o dX7_fits_55 (by decide) (fun c33 => ?_) (fun c33 => ?_)
              · exact absurd c33 (nI_nlt (a := 60) (b := kq) (by omega) (by omega))
              · refine z_aload_n (j := 1) o dX7_fits_58 rfl ?_
                refine zo_get (i := 0) o hB dX7_fits_59 zf_X7_38 rfl (by decide) (rfl) ?_
                refine z_iload_n (j := 2) o dX7_fits_62 rfl ?_
                refine zo_aldS (i := 72) (j := sa) o hB dX7_fits_63 rfl (show sa < 4 by omega) (by decide) ?_
                refine z_aload_n (j := 1) o dX7_fits_64 rfl ?_
                refine zo_get (i := 0) o hB dX7_fits_65 zf_X7_19 rfl (by decide) (rfl) ?_
                refine zo_get (i := 45) o hB dX7_fits_68 zf_X7_62 rfl (by decide) (rfl) ?_
                refine z_iload_n (j := 3) o dX7_fits_71 rfl ?_
                refine zo_aldF (i := 46) (j := fa) o hB dX7_fits_72 rfl (show fa < 4 by omega) (by decide) ?_
                refine z_callVi (As := [zref B (53 + 2 * fa)]) (n := 1) (st := []) o dX7_fits_73 (c_X4_tells hB M1 N1 (74 + 2 * sa) (53 + 2 * fa) sa fa (A 89) (sp_movesN (A 83) kq) (zh_sheet (by omega)) ((zh_R (r := 45) rfl).2.2.2.2.2.2.2.1 fa (by omega)) (by omega) (ok_movesN hok.1 kq) (fun k hk => by have := (hR.2.2.2.2.2.2 sa (by omega)).2.2 k hk; rw [show 75 + 2 * sa = 74 + 2 * sa + 1 by omega] at this; rw [h1 _ (by omega)]; exact this) (hg1.2.1 fa (by omega))) zc_X7_241 (by decide) (i := 74 + 2 * sa) (by rw [hB]; exact zsh_lt (zh_sheet (by omega)) (by decide)) (zg_o (zh_sheet (by omega)) (by decide)) rfl rfl rfl (Nat.le_of_ble_eq_true rfl) (fun r34 g35 p36 => ?_)
                obtain ⟨rfl, rfl⟩ := p36
                have e88 : M1 (74 + 2 * sa) 1 = A 88 sa := by rw [h1 _ (by omega)]; exact (hR.2.2.2.2.2.2 sa (by omega)).1
                have e83 : sp_movesN (A 83) kq (6 + 13 * fa + 3) = A 83 (6 + 13 * fa + 3) := sp_movesN_ne hok.1 (by omega) (fun i2 p _ _ => by omega) kq
                refine zo_rw (y := 0) (by rw [e88, e83, if_neg hsz9]) ?_
                refine z_ifeq (tgt := 81) o dX7_fits_76 (by decide) (fun c37 => ?_) (fun c37 => ?_)
                · refine z_aload_n (j := 1) o dX7_fits_81 rfl ?_
                  refine zo_get (i := 0) o hB dX7_fits_82 zf_X7_19 rfl (by decide) (rfl) ?_
                  refine z_callVv (As := []) (n := 0) (st := []) o dX7_fits_85 (c_X3_postsMove hB M1 N1 45 (sp_movesN (A 83) kq) rfl (ok_movesN hok.1 kq) hg1) zc_X7_217 (by decide) (i := 45) (by rw [hB]; exact zsh_lt rfl (by decide)) (zg_o rfl (by decide)) rfl rfl rfl (Nat.le_of_ble_eq_true rfl) (fun g39 p40 => ?_)
                  obtain ⟨M41, rfl, fM41, gM41⟩ := p40
                  have h3 : zFr 45 M M41 := h1.tr fM41
                  have hg3 : zRg 45 M41 N1 (sp_movesN (A 83) (kq + 1)) := gM41
                  refine z_iinc (j := 0) (v := nI (kq + 1)) (lv2 := [(3, .int (nI (kq + 1))), (0, zref B 0), (1, .int (nI sa)), (2, .int (nI fa))]) o dX7_fits_88 rfl (zn_ofInt _) (by decide) rfl ?_
                  refine z_goto (tgt := 52) o dX7_fits_91 (by decide) ?_
                  refine zo_lv [0, 1, 2, 3] rfl ?_
                  exact ih (kq + 1) (by omega) _ _ h3 h1n hg3 (hF9.trans (sp_find_f (decide_eq_false (by omega))))
                · exact absurd c37 (by decide)
          refine zo_lv [0, 1, 2, 3] rfl ?_
          exact LOOP 61 0 (by omega) M9 N9 f9 n9 g9 rfl
      · refine z_aload_n (j := 0) o dX7_fits_33 rfl ?_
        refine z_iconst (v := 2) o dX7_fits_34 (by decide) ?_
        refine z_callVi (As := [.int 2]) (n := 1) (st := []) o dX7_fits_35 (c_X7_error hB M N 2 (by decide) (by decide)) zc_X7_54 (by decide) (i := 0) (by rw [hB]; exact zsh_lt rfl (by decide)) (zg_o rfl (by decide)) rfl rfl rfl (Nat.le_of_ble_eq_true rfl) (fun r42 g43 p44 => ?_)
        obtain ⟨rfl, rfl⟩ := p44
        have hS : sq_fits A (nI sa) (nI fa) = ((zE 2), zEr A 2) := by
          unfold sq_fits; (try rw [zn_nI (n := sa) (by omega)]); (try rw [zn_nI (n := fa) (by omega)]); rw [if_neg c4, if_neg c11, if_pos c12] <;> (try rfl)
        exact kret _ _ _ _ dX7_fits_38 ⟨zu M 73 2 (M 73 2 + 1), N, rfl, by rw [hS], by rw [hS]; exact (hR).er (k := 2) (by decide), ((zHi.rf (M := M))).zu (by decide)⟩
    · refine z_aload_n (j := 0) o dX7_fits_15 rfl ?_
      refine z_iconst (v := 1) o dX7_fits_16 (by decide) ?_
      refine z_callVi (As := [.int 1]) (n := 1) (st := []) o dX7_fits_17 (c_X7_error hB M N 1 (by decide) (by decide)) zc_X7_54 (by decide) (i := 0) (by rw [hB]; exact zsh_lt rfl (by decide)) (zg_o rfl (by decide)) rfl rfl rfl (Nat.le_of_ble_eq_true rfl) (fun r45 g46 p47 => ?_)
      obtain ⟨rfl, rfl⟩ := p47
      have hS : sq_fits A (nI sa) f = ((zE 1), zEr A 1) := by
        unfold sq_fits; (try rw [zn_nI (n := sa) (by omega)]); rw [if_neg c4, if_pos c11] <;> (try rfl)
      exact kret _ _ _ _ dX7_fits_20 ⟨zu M 73 1 (M 73 1 + 1), N, rfl, by rw [hS], by rw [hS]; exact (hR).er (k := 1) (by decide), ((zHi.rf (M := M))).zu (by decide)⟩

