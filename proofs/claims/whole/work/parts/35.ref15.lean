/-! the reference: what it answers to a call (6) -/
def sq_first (M : zM) (c : Int32) (w : Int32) : Int32 × zM :=
  if zin c 0 63 = 0 then (zE 1, zEr M 1) else if zin w 0 1 = 0 then (zE 1, zEr M 1) else if 60 < nI (sp_fst (M 83) (zn c)) then (zE 2, zEr M 2) else
  if w = 0 then (nI (sp_fst (M 83) (zn c)), M) else (sp_brand (sp_movesN (M 83) (sp_fst (M 83) (zn c))) (zn c), M)
set_option maxHeartbeats 4000000 in
set_option maxRecDepth 100000 in
theorem c_X8_first {B : zB} (hB : znn B = 95) (M : zM) (N : zN) (c : Int32) (w : Int32) (hok : zOkAll (M 83)) : zCi B (zg B M N) yX8_first cX8_first 5 (some .int) 5 [zref B 82, .int c, .int w] (fun r g' => ∃ M' : zM, g' = zg B M' N ∧ r = (sq_first M c w).1 ∧ zQ (sq_first M c w).2 M') := by
  refine zCi_of (by decide +kernel) (Nat.le_of_ble_eq_true rfl) .int rfl (fun _ _ _ => rfl) ?_
  intro X o kret
  show zW X B (zg B M N) 0 [(0, zref B 82), (1, .int c), (2, .int w)] []
  obtain ⟨hnf, hnf4⟩ := ok_nf2 hok.1
  obtain ⟨hnc, hnc6⟩ := ok_nc2 hok.1
  refine z_iload_n (j := 1) o dX8_first_0 rfl ?_
  refine z_callSi (As := [.int c]) (n := 1) (st := []) o dX8_first_1 (c_X8_isCell hB M N c) zc_X8_109 (by decide) rfl rfl (Nat.le_of_ble_eq_true rfl) (fun r1 g2 p3 => ?_)
  obtain ⟨rfl, rfl⟩ := p3
  refine z_ifeq (tgt := 16) o dX8_first_4 (by decide) (fun c4 => ?_) (fun c4 => ?_)
  · refine z_aload_n (j := 0) o dX8_first_16 rfl ?_
    refine z_ldc (v := (-1000000001)) o dX8_first_17 zk_X8_100 ?_
    refine z_callVi (As := [.int (-1000000001)]) (n := 1) (st := []) o dX8_first_19 (c_X8_error hB M N 1 (by omega)) zc_X8_101 (by decide) (i := 82) (by rw [hB]; exact zsh_lt rfl (by decide)) (zg_o rfl (by decide)) rfl rfl rfl (Nat.le_of_ble_eq_true rfl) (fun r5 g6 p7 => ?_)
    obtain ⟨rfl, rfl⟩ := p7
    exact kret _ _ _ _ dX8_first_22 ⟨_, rfl, by unfold sq_first;  rw [if_pos c4] <;> (try rfl), by unfold sq_first;  rw [if_pos c4] <;> exact zQ.rf⟩
  · obtain ⟨ca, hca, eca⟩ := zin_lit (n := 63) rfl (by decide) c4
    subst eca
    refine z_iload_n (j := 2) o dX8_first_7 rfl ?_
    refine z_iconst (v := 0) o dX8_first_8 (by decide) ?_
    refine z_iconst (v := 1) o dX8_first_9 (by decide) ?_
    refine z_callSi (As := [.int w, .int 0, .int 1]) (n := 3) (st := []) o dX8_first_10 (c_X8_in hB M N w 0 1) zc_X8_51 (by decide) rfl rfl (Nat.le_of_ble_eq_true rfl) (fun r8 g9 p10 => ?_)
    obtain ⟨rfl, rfl⟩ := p10
    refine z_ifne (tgt := 23) o dX8_first_13 (by decide) (fun c11 => ?_) (fun c11 => ?_)
    · refine z_aload_n (j := 0) o dX8_first_23 rfl ?_
      refine z_callVv (As := []) (n := 0) (st := []) o dX8_first_24 (c_X8_thinks hB M N) zc_X8_212 (by decide) (i := 82) (by rw [hB]; exact zsh_lt rfl (by decide)) (zg_o rfl (by decide)) rfl rfl rfl (Nat.le_of_ble_eq_true rfl) (fun g13 p14 => ?_)
      cases p14
      refine zo_nm (fun M15 hM15 => ?_)
      refine z_iconst (v := 0) o dX8_first_27 (by decide) ?_
      refine z_istore_n (i := 3) (lv2 := [(3, .int 0), (0, zref B 82), (1, .int (nI ca)), (2, .int w)]) o dX8_first_28 rfl (by decide) rfl ?_
      subst hM15
      have LOOP : ∀ nq kq : Nat, kq + nq = 61 → sp_find (fun k => decide (¬ sp_brand (sp_movesN (M 83) k) ca < 0)) 61 0 = sp_find (fun k => decide (¬ sp_brand (sp_movesN (M 83) k) ca < 0)) nq kq → ∀ M1 : zM, M1 83 = sp_movesN (M 83) kq → zSm (va_up M 85 (M 83)) M1 → zW X B (zg B M1 N) 29 [(3, .int (nI kq)), (0, zref B 82), (1, .int (nI ca)), (2, .int w)] [] := by
        intro nq
        induction nq with
        | zero =>
          intro kq hkq hs M1 hr1 hS1
          obtain rfl : kq = 61 := by omega
          have hf : sp_fst (M 83) ca = 61 := hs
          have hok1 : zOkAll (M1 83) := by rw [hr1]; exact okA_movesN hok _
          refine z_iload_n (j := 0) o dX8_first_29 rfl ?_
          refine z_bipush (v := 60) o dX8_first_30 (by decide) ?_
          refine z_icmpgt (tgt := 53) o dX8_first_32 (by decide) (fun c16 => ?_) (fun c16 => ?_)
          · refine z_aload_n (j := 1) o dX8_first_53 rfl ?_
            refine z_iload_n (j := 2) o dX8_first_54 rfl ?_
            refine z_callVi (As := [.int (nI ca)]) (n := 1) (st := []) o dX8_first_55 (c_X8_brandOf hB M1 N ca (by omega) hok1.1) zc_X8_127 (by decide) (i := 82) (by rw [hB]; exact zsh_lt rfl (by decide)) (zg_o rfl (by decide)) rfl rfl rfl (Nat.le_of_ble_eq_true rfl) (fun r17 g18 p19 => ?_)
            obtain ⟨rfl, rfl⟩ := p19
            refine zo_rw (y := sp_brand (sp_movesN (M 83) 61) ca) (by rw [hr1]) ?_
            refine z_istore (i := 4) (lv2 := [(4, .int (sp_brand (sp_movesN (M 83) 61) ca)), (3, .int (nI 61)), (0, zref B 82), (1, .int (nI ca)), (2, .int w)]) o dX8_first_58 (by decide) rfl ?_
            refine z_aload_n (j := 2) o dX8_first_60 rfl ?_
            refine z_callVv (As := []) (n := 0) (st := []) o dX8_first_61 (c_X8_putsBack hB M1 N) zc_X8_215 (by decide) (i := 82) (by rw [hB]; exact zsh_lt rfl (by decide)) (zg_o rfl (by decide)) rfl rfl rfl (Nat.le_of_ble_eq_true rfl) (fun g21 p22 => ?_)
            cases p22
            refine zo_nm (fun M23 hM23 => ?_)
            refine z_iload_n (j := 1) o dX8_first_64 rfl ?_
            refine z_bipush (v := 60) o dX8_first_65 (by decide) ?_
            refine z_icmple (tgt := 79) o dX8_first_67 (by decide) (fun c24 => ?_) (fun c24 => ?_)
            · exact absurd (nI_lt (a := 60) (b := 61) (by omega) (by omega)) c24
            · refine z_aload_n (j := 2) o dX8_first_70 rfl ?_
              refine z_ldc (v := (-1000000002)) o dX8_first_71 zk_X8_218 ?_
              refine z_callVi (As := [.int (-1000000002)]) (n := 1) (st := []) o dX8_first_73 (c_X8_error hB M23 N 2 (by omega)) zc_X8_101 (by decide) (i := 82) (by rw [hB]; exact zsh_lt rfl (by decide)) (zg_o rfl (by decide)) rfl rfl rfl (Nat.le_of_ble_eq_true rfl) (fun r25 g26 p27 => ?_)
              obtain ⟨rfl, rfl⟩ := p27
              refine zo_nm (fun M28 hM28 => ?_)
              refine z_goto (tgt := 89) o dX8_first_76 (by decide) ?_
              exact kret _ _ _ _ dX8_first_89 ⟨_, rfl, by unfold sq_first; (try rw [zn_nI (n := ca) (by omega)]); rw [if_neg c4, if_neg c11, if_pos (show 60 < nI (sp_fst (M 83) ca) by rw [hf]; decide)] <;> (try rw [hf]) <;> (try rfl), by unfold sq_first; (try rw [zn_nI (n := ca) (by omega)]); rw [if_neg c4, if_neg c11, if_pos (show 60 < nI (sp_fst (M 83) ca) by rw [hf]; decide)] <;> exact (by rw [hM28]; first | exact (zQ.bk hS1).er | (subst hM23; exact (zQ.bk hS1).er))⟩
          · exact absurd (nI_lt (a := 60) (b := 61) (by omega) (by omega)) c16
        | succ nq ih =>
          intro kq hkq hs M1 hr1 hS1
          have hlt : kq < 61 := by omega
          have hok1 : zOkAll (M1 83) := by rw [hr1]; exact okA_movesN hok _
          refine z_iload_n (j := 0) o dX8_first_29 rfl ?_
          refine z_bipush (v := 60) o dX8_first_30 (by decide) ?_
          refine z_icmpgt (tgt := 53) o dX8_first_32 (by decide) (fun c29 => ?_) (fun c29 => ?_)
          · exact absurd c29 (nI_nlt (a := 60) (b := kq) (by omega) (by omega))
          · refine z_aload_n (j := 1) o dX8_first_35 rfl ?_
            refine z_iload_n (j := 2) o dX8_first_36 rfl ?_
            refine z_callVi (As := [.int (nI ca)]) (n := 1) (st := []) o dX8_first_37 (c_X8_brandOf hB M1 N ca (by omega) hok1.1) zc_X8_127 (by decide) (i := 82) (by rw [hB]; exact zsh_lt rfl (by decide)) (zg_o rfl (by decide)) rfl rfl rfl (Nat.le_of_ble_eq_true rfl) (fun r30 g31 p32 => ?_)
            obtain ⟨rfl, rfl⟩ := p32
            refine z_ifge (tgt := 53) o dX8_first_40 (by decide) (fun c33 => ?_) (fun c33 => ?_)
            · have hf : sp_fst (M 83) ca = kq := hs.trans (sp_find_t (decide_eq_true ((by rw [← hr1]; exact c33))))
              refine z_aload_n (j := 1) o dX8_first_53 rfl ?_
              refine z_iload_n (j := 2) o dX8_first_54 rfl ?_
              refine z_callVi (As := [.int (nI ca)]) (n := 1) (st := []) o dX8_first_55 (c_X8_brandOf hB M1 N ca (by omega) hok1.1) zc_X8_127 (by decide) (i := 82) (by rw [hB]; exact zsh_lt rfl (by decide)) (zg_o rfl (by decide)) rfl rfl rfl (Nat.le_of_ble_eq_true rfl) (fun r34 g35 p36 => ?_)
              obtain ⟨rfl, rfl⟩ := p36
              refine zo_rw (y := sp_brand (sp_movesN (M 83) (sp_fst (M 83) ca)) ca) (by rw [hr1, hf]) ?_
              refine z_istore (i := 4) (lv2 := [(4, .int (sp_brand (sp_movesN (M 83) (sp_fst (M 83) ca)) ca)), (3, .int (nI kq)), (0, zref B 82), (1, .int (nI ca)), (2, .int w)]) o dX8_first_58 (by decide) rfl ?_
              refine z_aload_n (j := 2) o dX8_first_60 rfl ?_
              refine z_callVv (As := []) (n := 0) (st := []) o dX8_first_61 (c_X8_putsBack hB M1 N) zc_X8_215 (by decide) (i := 82) (by rw [hB]; exact zsh_lt rfl (by decide)) (zg_o rfl (by decide)) rfl rfl rfl (Nat.le_of_ble_eq_true rfl) (fun g38 p39 => ?_)
              cases p39
              refine zo_nm (fun M40 hM40 => ?_)
              refine z_iload_n (j := 1) o dX8_first_64 rfl ?_
              refine z_bipush (v := 60) o dX8_first_65 (by decide) ?_
              refine z_icmple (tgt := 79) o dX8_first_67 (by decide) (fun c41 => ?_) (fun c41 => ?_)
              · refine z_iload_n (j := 4) o dX8_first_79 rfl ?_
                refine z_ifne (tgt := 87) o dX8_first_80 (by decide) (fun c42 => ?_) (fun c42 => ?_)
                · refine z_iload (j := 0) o dX8_first_87 rfl ?_
                  exact kret _ _ _ _ dX8_first_89 ⟨_, rfl, by unfold sq_first; (try rw [zn_nI (n := ca) (by omega)]); rw [if_neg c4, if_neg c11, if_neg (show ¬ 60 < nI (sp_fst (M 83) ca) by rw [hf]; exact nI_nlt (a := 60) (by omega) (by omega)), if_neg c42] <;> (try rw [hf]) <;> (try rfl), by unfold sq_first; (try rw [zn_nI (n := ca) (by omega)]); rw [if_neg c4, if_neg c11, if_neg (show ¬ 60 < nI (sp_fst (M 83) ca) by rw [hf]; exact nI_nlt (a := 60) (by omega) (by omega)), if_neg c42] <;> exact (by rw [hM40]; exact zQ.bk hS1)⟩
                · refine z_iload_n (j := 1) o dX8_first_83 rfl ?_
                  refine z_goto (tgt := 89) o dX8_first_84 (by decide) ?_
                  exact kret _ _ _ _ dX8_first_89 ⟨_, rfl, by unfold sq_first; (try rw [zn_nI (n := ca) (by omega)]); rw [if_neg c4, if_neg c11, if_neg (show ¬ 60 < nI (sp_fst (M 83) ca) by rw [hf]; exact nI_nlt (a := 60) (by omega) (by omega)), if_pos c42] <;> (try rw [hf]) <;> (try rfl), by unfold sq_first; (try rw [zn_nI (n := ca) (by omega)]); rw [if_neg c4, if_neg c11, if_neg (show ¬ 60 < nI (sp_fst (M 83) ca) by rw [hf]; exact nI_nlt (a := 60) (by omega) (by omega)), if_pos c42] <;> exact (by rw [hM40]; exact zQ.bk hS1)⟩
              · exact absurd c41 (nI_nlt (a := 60) (b := kq) (by omega) (by omega))
            · have hs2 : sp_find (fun k => decide (¬ sp_brand (sp_movesN (M 83) k) ca < 0)) 61 0 = sp_find (fun k => decide (¬ sp_brand (sp_movesN (M 83) k) ca < 0)) nq (kq + 1) := hs.trans (sp_find_f (decide_eq_false ((by rw [← hr1]; exact fun q => q c33))))
              refine z_aload_n (j := 1) o dX8_first_43 rfl ?_
              refine z_callVv (As := []) (n := 0) (st := []) o dX8_first_44 (c_X8_moves hB M1 N hok1.1) zc_X8_195 (by decide) (i := 82) (by rw [hB]; exact zsh_lt rfl (by decide)) (zg_o rfl (by decide)) rfl rfl rfl (Nat.le_of_ble_eq_true rfl) (fun g44 p45 => ?_)
              cases p45
              refine zo_nm (fun M46 hM46 => ?_)
              refine z_iinc (j := 0) (v := nI (kq + 1)) (lv2 := [(3, .int (nI (kq + 1))), (0, zref B 82), (1, .int (nI ca)), (2, .int w)]) o dX8_first_47 rfl (zn_ofInt _) (by decide) rfl ?_
              refine z_goto (tgt := 29) o dX8_first_50 (by decide) ?_
              refine zo_lv [0, 1, 2, 3] rfl ?_
              exact ih (kq + 1) (by omega) hs2 M46 (by rw [hM46, va_up_self, hr1]; rfl) (by rw [hM46]; exact hS1.mv)
      refine zo_lv [0, 1, 2, 3] rfl ?_
      exact LOOP 61 0 rfl rfl (va_up M 85 (M 83)) (va_up_ne _ _ (by decide)) zSm.rf
    · refine z_aload_n (j := 0) o dX8_first_16 rfl ?_
      refine z_ldc (v := (-1000000001)) o dX8_first_17 zk_X8_100 ?_
      refine z_callVi (As := [.int (-1000000001)]) (n := 1) (st := []) o dX8_first_19 (c_X8_error hB M N 1 (by omega)) zc_X8_101 (by decide) (i := 82) (by rw [hB]; exact zsh_lt rfl (by decide)) (zg_o rfl (by decide)) rfl rfl rfl (Nat.le_of_ble_eq_true rfl) (fun r47 g48 p49 => ?_)
      obtain ⟨rfl, rfl⟩ := p49
      exact kret _ _ _ _ dX8_first_22 ⟨_, rfl, by unfold sq_first; (try rw [zn_nI (n := ca) (by omega)]); rw [if_neg c4, if_pos c11] <;> (try rfl), by unfold sq_first; (try rw [zn_nI (n := ca) (by omega)]); rw [if_neg c4, if_pos c11] <;> exact zQ.rf⟩

def sq_way (M : zM) (c : Int32) (t : Int32) : Int32 × zM :=
  if zin c 0 (M 83 3 - 1) = 0 then (zE 1, zEr M 1) else if zin t 0 63 = 0 then (zE 1, zEr M 1) else if 60 < nI (sp_wayN (M 83) (zlshl 1 (M 83 (58 + 2 * zn c))) (zn t)) then (zE 2, zEr M 2) else
  (nI (sp_wayN (M 83) (zlshl 1 (M 83 (58 + 2 * zn c))) (zn t)), M)
set_option maxHeartbeats 4000000 in
set_option maxRecDepth 100000 in
theorem c_X8_way {B : zB} (hB : znn B = 95) (M : zM) (N : zN) (c : Int32) (t : Int32) (hok : zOkAll (M 83)) : zCi B (zg B M N) yX8_way cX8_way 6 (some .int) 5 [zref B 82, .int c, .int t] (fun r g' => ∃ M' : zM, g' = zg B M' N ∧ r = (sq_way M c t).1 ∧ zQ (sq_way M c t).2 M') := by
  refine zCi_of (by decide +kernel) (Nat.le_of_ble_eq_true rfl) .int rfl (fun _ _ _ => rfl) ?_
  intro X o kret
  show zW X B (zg B M N) 0 [(0, zref B 82), (1, .int c), (2, .int t)] []
  obtain ⟨hnf, hnf4⟩ := ok_nf2 hok.1
  obtain ⟨hnc, hnc6⟩ := ok_nc2 hok.1
  refine z_aload_n (j := 0) o dX8_way_0 rfl ?_
  refine z_iload_n (j := 1) o dX8_way_1 rfl ?_
  refine z_callVi (As := [.int c]) (n := 1) (st := []) o dX8_way_2 (c_X8_isCow hB M N c) zc_X8_124 (by decide) (i := 82) (by rw [hB]; exact zsh_lt rfl (by decide)) (zg_o rfl (by decide)) rfl rfl rfl (Nat.le_of_ble_eq_true rfl) (fun r1 g2 p3 => ?_)
  obtain ⟨rfl, rfl⟩ := p3
  refine z_ifeq (tgt := 15) o dX8_way_5 (by decide) (fun c4 => ?_) (fun c4 => ?_)
  · refine z_aload_n (j := 0) o dX8_way_15 rfl ?_
    refine z_ldc (v := (-1000000001)) o dX8_way_16 zk_X8_100 ?_
    refine z_callVi (As := [.int (-1000000001)]) (n := 1) (st := []) o dX8_way_18 (c_X8_error hB M N 1 (by omega)) zc_X8_101 (by decide) (i := 82) (by rw [hB]; exact zsh_lt rfl (by decide)) (zg_o rfl (by decide)) rfl rfl rfl (Nat.le_of_ble_eq_true rfl) (fun r5 g6 p7 => ?_)
    obtain ⟨rfl, rfl⟩ := p7
    exact kret _ _ _ _ dX8_way_21 ⟨_, rfl, by unfold sq_way;  rw [if_pos c4] <;> (try rfl), by unfold sq_way;  rw [if_pos c4] <;> exact zQ.rf⟩
  · have hzc := c4
    rw [hnc] at hzc
    obtain ⟨ca, hca, eca⟩ := zin_nat (by omega) hzc
    subst eca
    refine z_iload_n (j := 2) o dX8_way_8 rfl ?_
    refine z_callSi (As := [.int t]) (n := 1) (st := []) o dX8_way_9 (c_X8_isCell hB M N t) zc_X8_109 (by decide) rfl rfl (Nat.le_of_ble_eq_true rfl) (fun r8 g9 p10 => ?_)
    obtain ⟨rfl, rfl⟩ := p10
    refine z_ifne (tgt := 22) o dX8_way_12 (by decide) (fun c11 => ?_) (fun c11 => ?_)
    · obtain ⟨cb, hcb, ecb⟩ := zin_lit (n := 63) rfl (by decide) c11
      subst ecb
      refine z_aload_n (j := 0) o dX8_way_22 rfl ?_
      refine z_callVv (As := []) (n := 0) (st := []) o dX8_way_23 (c_X8_thinks hB M N) zc_X8_212 (by decide) (i := 82) (by rw [hB]; exact zsh_lt rfl (by decide)) (zg_o rfl (by decide)) rfl rfl rfl (Nat.le_of_ble_eq_true rfl) (fun g13 p14 => ?_)
      cases p14
      refine zo_nm (fun M15 hM15 => ?_)
      refine z_lconst (v := 1) o dX8_way_26 (by decide) ?_
      refine z_aload_n (j := 0) o dX8_way_27 rfl ?_
      refine zo_get (i := 82) o hB dX8_way_28 zf_X8_9 rfl (by decide) rfl ?_
      refine z_bipush (v := 58) o dX8_way_31 (by decide) ?_
      refine z_iconst (v := 2) o dX8_way_33 (by decide) ?_
      refine z_iload_n (j := 1) o dX8_way_34 rfl ?_
      refine z_imul o dX8_way_35 ?_
      refine zo_rw (y := nI (2 * ca)) (zn_mul (rfl) (rfl)) ?_
      refine z_iadd o dX8_way_36 ?_
      refine zo_rw (y := nI (58 + 2 * ca)) (zn_add (rfl) (rfl)) ?_
      refine zo_iald (i := 83) (j := 58 + 2 * ca) o hB dX8_way_37 rfl (show 58 + 2 * ca < 524 by omega) (by decide) ?_
      refine z_lshl o dX8_way_38 ?_
      refine z_lstore_n (i := 3) (lv2 := [(3, .long (zlshl 1 (M15 83 (58 + 2 * ca)))), (0, zref B 82), (1, .int (nI ca)), (2, .int (nI cb))]) o dX8_way_39 rfl (by decide) rfl ?_
      refine z_iconst (v := 0) o dX8_way_40 (by decide) ?_
      refine z_istore (i := 5) (lv2 := [(5, .int 0), (3, .long (zlshl 1 (M15 83 (58 + 2 * ca)))), (0, zref B 82), (1, .int (nI ca)), (2, .int (nI cb))]) o dX8_way_41 (by decide) rfl ?_
      subst hM15
      have LOOP : ∀ nq kq : Nat, kq + nq = 61 → sp_find (fun k => decide (¬ zlushr (sp_cm (M 83) (zlshl 1 (M 83 (58 + 2 * ca))) k) (nI cb) &&& 1 = 0)) 61 0 = sp_find (fun k => decide (¬ zlushr (sp_cm (M 83) (zlshl 1 (M 83 (58 + 2 * ca))) k) (nI cb) &&& 1 = 0)) nq kq → ∀ M1 : zM, M1 83 = sp_movesN (M 83) kq → zSm (va_up M 85 (M 83)) M1 → zW X B (zg B M1 N) 43 [(5, .int (nI kq)), (3, .long (sp_cm (M 83) (zlshl 1 (M 83 (58 + 2 * ca))) kq)), (0, zref B 82), (1, .int (nI ca)), (2, .int (nI cb))] [] := by
        intro nq
        induction nq with
        | zero =>
          intro kq hkq hs M1 hr1 hS1
          obtain rfl : kq = 61 := by omega
          have hf : sp_wayN (M 83) (zlshl 1 (M 83 (58 + 2 * ca))) cb = 61 := hs
          have hok1 : zOkAll (M1 83) := by rw [hr1]; exact okA_movesN hok _
          refine z_iload (j := 0) o dX8_way_43 rfl ?_
          refine z_bipush (v := 60) o dX8_way_45 (by decide) ?_
          refine z_icmpgt (tgt := 86) o dX8_way_47 (by decide) (fun c16 => ?_) (fun c16 => ?_)
          · refine z_aload_n (j := 2) o dX8_way_86 rfl ?_
            refine z_callVv (As := []) (n := 0) (st := []) o dX8_way_87 (c_X8_putsBack hB M1 N) zc_X8_215 (by decide) (i := 82) (by rw [hB]; exact zsh_lt rfl (by decide)) (zg_o rfl (by decide)) rfl rfl rfl (Nat.le_of_ble_eq_true rfl) (fun g18 p19 => ?_)
            cases p19
            refine zo_nm (fun M20 hM20 => ?_)
            refine z_iload (j := 0) o dX8_way_90 rfl ?_
            refine z_bipush (v := 60) o dX8_way_92 (by decide) ?_
            refine z_icmple (tgt := 106) o dX8_way_94 (by decide) (fun c21 => ?_) (fun c21 => ?_)
            · exact absurd (nI_lt (a := 60) (b := 61) (by omega) (by omega)) c21
            · refine z_aload_n (j := 2) o dX8_way_97 rfl ?_
              refine z_ldc (v := (-1000000002)) o dX8_way_98 zk_X8_218 ?_
              refine z_callVi (As := [.int (-1000000002)]) (n := 1) (st := []) o dX8_way_100 (c_X8_error hB M20 N 2 (by omega)) zc_X8_101 (by decide) (i := 82) (by rw [hB]; exact zsh_lt rfl (by decide)) (zg_o rfl (by decide)) rfl rfl rfl (Nat.le_of_ble_eq_true rfl) (fun r22 g23 p24 => ?_)
              obtain ⟨rfl, rfl⟩ := p24
              refine zo_nm (fun M25 hM25 => ?_)
              refine z_goto (tgt := 108) o dX8_way_103 (by decide) ?_
              exact kret _ _ _ _ dX8_way_108 ⟨_, rfl, by unfold sq_way; (try rw [zn_nI (n := ca) (by omega)]); (try rw [zn_nI (n := cb) (by omega)]); rw [if_neg c4, if_neg c11, if_pos (show 60 < nI (sp_wayN (M 83) (zlshl 1 (M 83 (58 + 2 * ca))) cb) by rw [hf]; decide)] <;> (try rw [hf]) <;> (try rfl), by unfold sq_way; (try rw [zn_nI (n := ca) (by omega)]); (try rw [zn_nI (n := cb) (by omega)]); rw [if_neg c4, if_neg c11, if_pos (show 60 < nI (sp_wayN (M 83) (zlshl 1 (M 83 (58 + 2 * ca))) cb) by rw [hf]; decide)] <;> exact (by rw [hM25]; first | exact (zQ.bk hS1).er | (subst hM20; exact (zQ.bk hS1).er))⟩
          · exact absurd (nI_lt (a := 60) (b := 61) (by omega) (by omega)) c16
        | succ nq ih =>
          intro kq hkq hs M1 hr1 hS1
          have hlt : kq < 61 := by omega
          have hok1 : zOkAll (M1 83) := by rw [hr1]; exact okA_movesN hok _
          refine z_iload (j := 0) o dX8_way_43 rfl ?_
          refine z_bipush (v := 60) o dX8_way_45 (by decide) ?_
          refine z_icmpgt (tgt := 86) o dX8_way_47 (by decide) (fun c26 => ?_) (fun c26 => ?_)
          · exact absurd c26 (nI_nlt (a := 60) (b := kq) (by omega) (by omega))
          · refine z_lload_n (j := 1) o dX8_way_50 rfl ?_
            refine z_iload_n (j := 4) o dX8_way_51 rfl ?_
            refine z_lushr o dX8_way_52 ?_
            refine z_lconst (v := 1) o dX8_way_53 (by decide) ?_
            refine z_land o dX8_way_54 ?_
            refine z_lconst (v := 0) o dX8_way_55 (by decide) ?_
            refine z_lcmp o dX8_way_56 ?_
            refine z_ifne (tgt := 86) o dX8_way_57 (by decide) (fun c27 => ?_) (fun c27 => ?_)
            · have hf : sp_wayN (M 83) (zlshl 1 (M 83 (58 + 2 * ca))) cb = kq := hs.trans (sp_find_t (decide_eq_true ((fun q => c27 (lg0.mpr q)))))
              refine z_aload_n (j := 2) o dX8_way_86 rfl ?_
              refine z_callVv (As := []) (n := 0) (st := []) o dX8_way_87 (c_X8_putsBack hB M1 N) zc_X8_215 (by decide) (i := 82) (by rw [hB]; exact zsh_lt rfl (by decide)) (zg_o rfl (by decide)) rfl rfl rfl (Nat.le_of_ble_eq_true rfl) (fun g29 p30 => ?_)
              cases p30
              refine zo_nm (fun M31 hM31 => ?_)
              refine z_iload (j := 0) o dX8_way_90 rfl ?_
              refine z_bipush (v := 60) o dX8_way_92 (by decide) ?_
              refine z_icmple (tgt := 106) o dX8_way_94 (by decide) (fun c32 => ?_) (fun c32 => ?_)
              · refine z_iload (j := 0) o dX8_way_106 rfl ?_
                exact kret _ _ _ _ dX8_way_108 ⟨_, rfl, by unfold sq_way; (try rw [zn_nI (n := ca) (by omega)]); (try rw [zn_nI (n := cb) (by omega)]); rw [if_neg c4, if_neg c11, if_neg (show ¬ 60 < nI (sp_wayN (M 83) (zlshl 1 (M 83 (58 + 2 * ca))) cb) by rw [hf]; exact nI_nlt (a := 60) (by omega) (by omega))] <;> (try rw [hf]) <;> (try rfl), by unfold sq_way; (try rw [zn_nI (n := ca) (by omega)]); (try rw [zn_nI (n := cb) (by omega)]); rw [if_neg c4, if_neg c11, if_neg (show ¬ 60 < nI (sp_wayN (M 83) (zlshl 1 (M 83 (58 + 2 * ca))) cb) by rw [hf]; exact nI_nlt (a := 60) (by omega) (by omega))] <;> exact (by rw [hM31]; exact zQ.bk hS1)⟩
              · exact absurd c32 (nI_nlt (a := 60) (b := kq) (by omega) (by omega))
            · have hs2 : sp_find (fun k => decide (¬ zlushr (sp_cm (M 83) (zlshl 1 (M 83 (58 + 2 * ca))) k) (nI cb) &&& 1 = 0)) 61 0 = sp_find (fun k => decide (¬ zlushr (sp_cm (M 83) (zlshl 1 (M 83 (58 + 2 * ca))) k) (nI cb) &&& 1 = 0)) nq (kq + 1) := hs.trans (sp_find_f (decide_eq_false ((fun q => q (lg0.mp c27)))))
              refine z_aload_n (j := 2) o dX8_way_60 rfl ?_
              refine z_callVv (As := []) (n := 0) (st := []) o dX8_way_61 (c_X8_moves hB M1 N hok1.1) zc_X8_195 (by decide) (i := 82) (by rw [hB]; exact zsh_lt rfl (by decide)) (zg_o rfl (by decide)) rfl rfl rfl (Nat.le_of_ble_eq_true rfl) (fun g34 p35 => ?_)
              cases p35
              refine zo_nm (fun M36 hM36 => ?_)
              have hrM36 : M36 83 = sp_movesN (M 83) (kq + 1) := by rw [hM36, va_up_self, hr1]; rfl
              have hokM36 : zOkR (M36 83) := by rw [hrM36]; exact ok_movesN hok.1 _
              refine z_lload_n (j := 1) o dX8_way_64 rfl ?_
              refine z_lload_n (j := 1) o dX8_way_65 rfl ?_
              refine z_callSl (As := [.long (sp_cm (M 83) (zlshl 1 (M 83 (58 + 2 * ca))) kq)]) (n := 1) (st := [.long (sp_cm (M 83) (zlshl 1 (M 83 (58 + 2 * ca))) kq)]) o dX8_way_66 (c_X8_beside hB M36 N (sp_cm (M 83) (zlshl 1 (M 83 (58 + 2 * ca))) kq)) zc_X8_81 (by decide) rfl rfl (Nat.le_of_ble_eq_true rfl) (fun r37 g38 p39 => ?_)
              obtain ⟨rfl, rfl⟩ := p39
              refine z_aload_n (j := 2) o dX8_way_69 rfl ?_
              refine z_callVl (As := []) (n := 0) (st := [.long (sp_beside (sp_cm (M 83) (zlshl 1 (M 83 (58 + 2 * ca))) kq)), .long (sp_cm (M 83) (zlshl 1 (M 83 (58 + 2 * ca))) kq)]) o dX8_way_70 (c_X8_allPosts hB M36 N hokM36) zc_X8_223 (by decide) (i := 82) (by rw [hB]; exact zsh_lt rfl (by decide)) (zg_o rfl (by decide)) rfl rfl rfl (Nat.le_of_ble_eq_true rfl) (fun r40 g41 p42 => ?_)
              obtain ⟨rfl, rfl⟩ := p42
              refine zo_rwl (y := sp_allp (sp_movesN (M 83) (kq + 1)) (sp_nf (sp_movesN (M 83) (kq + 1)))) (by rw [hrM36]) ?_
              refine z_ldc2 (v := (-1)) o dX8_way_73 zk_X8_77 ?_
              refine z_lxor o dX8_way_76 ?_
              refine z_land o dX8_way_77 ?_
              refine z_lor o dX8_way_78 ?_
              refine z_lstore_n (i := 3) (lv2 := [(3, .long ((sp_cm (M 83) (zlshl 1 (M 83 (58 + 2 * ca))) kq) ||| ((sp_beside (sp_cm (M 83) (zlshl 1 (M 83 (58 + 2 * ca))) kq)) &&& ((sp_allp (sp_movesN (M 83) (kq + 1)) (sp_nf (sp_movesN (M 83) (kq + 1)))) ^^^ (-1))))), (5, .int (nI kq)), (0, zref B 82), (1, .int (nI ca)), (2, .int (nI cb))]) o dX8_way_79 rfl (by decide) rfl ?_
              refine z_iinc (j := 1) (v := nI (kq + 1)) (lv2 := [(5, .int (nI (kq + 1))), (3, .long ((sp_cm (M 83) (zlshl 1 (M 83 (58 + 2 * ca))) kq) ||| ((sp_beside (sp_cm (M 83) (zlshl 1 (M 83 (58 + 2 * ca))) kq)) &&& ((sp_allp (sp_movesN (M 83) (kq + 1)) (sp_nf (sp_movesN (M 83) (kq + 1)))) ^^^ (-1))))), (0, zref B 82), (1, .int (nI ca)), (2, .int (nI cb))]) o dX8_way_80 rfl (zn_ofInt _) (by decide) rfl ?_
              refine z_goto (tgt := 43) o dX8_way_83 (by decide) ?_
              refine zo_lv [0, 1, 2, 3, 4] rfl ?_
              exact ih (kq + 1) (by omega) hs2 M36 (by rw [hM36, va_up_self, hr1]; rfl) (by rw [hM36]; exact hS1.mv)
      refine zo_lv [0, 1, 2, 3, 4] rfl ?_
      exact LOOP 61 0 rfl rfl (va_up M 85 (M 83)) (va_up_ne _ _ (by decide)) zSm.rf
    · refine z_aload_n (j := 0) o dX8_way_15 rfl ?_
      refine z_ldc (v := (-1000000001)) o dX8_way_16 zk_X8_100 ?_
      refine z_callVi (As := [.int (-1000000001)]) (n := 1) (st := []) o dX8_way_18 (c_X8_error hB M N 1 (by omega)) zc_X8_101 (by decide) (i := 82) (by rw [hB]; exact zsh_lt rfl (by decide)) (zg_o rfl (by decide)) rfl rfl rfl (Nat.le_of_ble_eq_true rfl) (fun r43 g44 p45 => ?_)
      obtain ⟨rfl, rfl⟩ := p45
      exact kret _ _ _ _ dX8_way_21 ⟨_, rfl, by unfold sq_way; (try rw [zn_nI (n := ca) (by omega)]); rw [if_neg c4, if_pos c11] <;> (try rfl), by unfold sq_way; (try rw [zn_nI (n := ca) (by omega)]); rw [if_neg c4, if_pos c11] <;> exact zQ.rf⟩

def sq_fits (M : zM) (s : Int32) (f : Int32) : Int32 × zM :=
  if zin s 0 3 = 0 then (zE 1, zEr M 1) else if zin f 0 (M 83 2 - 1) = 0 then (zE 1, zEr M 1) else if M 87 (zn s) = 0 then (zE 2, zEr M 2) else if M 88 (zn s) = M 83 (6 + 13 * zn f + 3) then
  (if 60 < nI (sp_fit (M 89) (M 83) (zn s) (zn f) (sh_n M (zn s))) then (zE 2, zEr M 2) else (nI (sp_fit (M 89) (M 83) (zn s) (zn f) (sh_n M (zn s))), M)) else (zE 2, zEr M 2)
set_option maxHeartbeats 4000000 in
set_option maxRecDepth 100000 in
theorem c_X8_fits {B : zB} (hB : znn B = 95) (M : zM) (N : zN) (s : Int32) (f : Int32) (hok : zOkAll (M 83)) (hsh : zShOk M) : zCi B (zg B M N) yX8_fits cX8_fits 4 (some .int) 5 [zref B 82, .int s, .int f] (fun r g' => ∃ M' : zM, g' = zg B M' N ∧ r = (sq_fits M s f).1 ∧ zQ (sq_fits M s f).2 M') := by
  refine zCi_of (by decide +kernel) (Nat.le_of_ble_eq_true rfl) .int rfl (fun _ _ _ => rfl) ?_
  intro X o kret
  show zW X B (zg B M N) 0 [(0, zref B 82), (1, .int s), (2, .int f)] []
  obtain ⟨hnf, hnf4⟩ := ok_nf2 hok.1
  obtain ⟨hnc, hnc6⟩ := ok_nc2 hok.1
  refine z_iload_n (j := 1) o dX8_fits_0 rfl ?_
  refine z_callSi (As := [.int s]) (n := 1) (st := []) o dX8_fits_1 (c_X8_isSheet hB M N s) zc_X8_227 (by decide) rfl rfl (Nat.le_of_ble_eq_true rfl) (fun r1 g2 p3 => ?_)
  obtain ⟨rfl, rfl⟩ := p3
  refine z_ifeq (tgt := 15) o dX8_fits_4 (by decide) (fun c4 => ?_) (fun c4 => ?_)
  · refine z_aload_n (j := 0) o dX8_fits_15 rfl ?_
    refine z_ldc (v := (-1000000001)) o dX8_fits_16 zk_X8_100 ?_
    refine z_callVi (As := [.int (-1000000001)]) (n := 1) (st := []) o dX8_fits_18 (c_X8_error hB M N 1 (by omega)) zc_X8_101 (by decide) (i := 82) (by rw [hB]; exact zsh_lt rfl (by decide)) (zg_o rfl (by decide)) rfl rfl rfl (Nat.le_of_ble_eq_true rfl) (fun r5 g6 p7 => ?_)
    obtain ⟨rfl, rfl⟩ := p7
    exact kret _ _ _ _ dX8_fits_21 ⟨_, rfl, by unfold sq_fits;  rw [if_pos c4] <;> (try rfl), by unfold sq_fits;  rw [if_pos c4] <;> exact zQ.rf⟩
  · obtain ⟨sa, hsa, esa⟩ := zin_lit (n := 3) rfl (by decide) c4
    subst esa
    refine z_aload_n (j := 0) o dX8_fits_7 rfl ?_
    refine z_iload_n (j := 2) o dX8_fits_8 rfl ?_
    refine z_callVi (As := [.int f]) (n := 1) (st := []) o dX8_fits_9 (c_X8_isFence hB M N f) zc_X8_106 (by decide) (i := 82) (by rw [hB]; exact zsh_lt rfl (by decide)) (zg_o rfl (by decide)) rfl rfl rfl (Nat.le_of_ble_eq_true rfl) (fun r8 g9 p10 => ?_)
    obtain ⟨rfl, rfl⟩ := p10
    refine z_ifne (tgt := 22) o dX8_fits_12 (by decide) (fun c11 => ?_) (fun c11 => ?_)
    · have hzf := c11
      rw [hnf] at hzf
      obtain ⟨fa, hfa, efa⟩ := zin_nat (by omega) hzf
      subst efa
      refine z_aload_n (j := 0) o dX8_fits_22 rfl ?_
      refine zo_get (i := 82) o hB dX8_fits_23 zf_X8_22 rfl (by decide) rfl ?_
      refine z_iload_n (j := 1) o dX8_fits_26 rfl ?_
      refine zo_iald (i := 87) (j := sa) o hB dX8_fits_27 rfl (show sa < 4 by omega) (by decide) ?_
      refine z_ifeq (tgt := 46) o dX8_fits_28 (by decide) (fun c12 => ?_) (fun c12 => ?_)
      · refine z_aload_n (j := 0) o dX8_fits_46 rfl ?_
        refine z_ldc (v := (-1000000002)) o dX8_fits_47 zk_X8_218 ?_
        refine z_callVi (As := [.int (-1000000002)]) (n := 1) (st := []) o dX8_fits_49 (c_X8_error hB M N 2 (by omega)) zc_X8_101 (by decide) (i := 82) (by rw [hB]; exact zsh_lt rfl (by decide)) (zg_o rfl (by decide)) rfl rfl rfl (Nat.le_of_ble_eq_true rfl) (fun r13 g14 p15 => ?_)
        obtain ⟨rfl, rfl⟩ := p15
        exact kret _ _ _ _ dX8_fits_52 ⟨_, rfl, by unfold sq_fits; (try rw [zn_nI (n := sa) (by omega)]); (try rw [zn_nI (n := fa) (by omega)]); rw [if_neg c4, if_neg c11, if_pos c12] <;> (try rfl), by unfold sq_fits; (try rw [zn_nI (n := sa) (by omega)]); (try rw [zn_nI (n := fa) (by omega)]); rw [if_neg c4, if_neg c11, if_pos c12] <;> exact zQ.rf⟩
      · obtain ⟨hsn, hsn24⟩ := sh_n2 hsh (s := sa) (by omega)
        refine z_aload_n (j := 0) o dX8_fits_31 rfl ?_
        refine zo_get (i := 82) o hB dX8_fits_32 zf_X8_25 rfl (by decide) rfl ?_
        refine z_iload_n (j := 1) o dX8_fits_35 rfl ?_
        refine zo_iald (i := 88) (j := sa) o hB dX8_fits_36 rfl (show sa < 4 by omega) (by decide) ?_
        refine z_aload_n (j := 0) o dX8_fits_37 rfl ?_
        refine z_iload_n (j := 2) o dX8_fits_38 rfl ?_
        refine z_iconst (v := 3) o dX8_fits_39 (by decide) ?_
        refine z_callVi (As := [.int (nI fa), .int 3]) (n := 2) (st := [.int (M 88 sa)]) o dX8_fits_40 (c_X8_of hB M N fa 3 (by omega)) zc_X8_55 (by decide) (i := 82) (by rw [hB]; exact zsh_lt rfl (by decide)) (zg_o rfl (by decide)) rfl rfl rfl (Nat.le_of_ble_eq_true rfl) (fun r16 g17 p18 => ?_)
        obtain ⟨rfl, rfl⟩ := p18
        refine z_icmpeq (tgt := 53) o dX8_fits_43 (by decide) (fun c19 => ?_) (fun c19 => ?_)
        · obtain ⟨hnp, hnp8⟩ := ok_np2 hok.1 (i := fa) (by omega)
          have hsn8 : sh_n M sa ≤ 8 := by
            have q := c19
            rw [hsn, hnp] at q
            have := (nI_eq (by omega) (by omega)).mp q
            omega
          refine z_aload_n (j := 0) o dX8_fits_53 rfl ?_
          refine z_callVv (As := []) (n := 0) (st := []) o dX8_fits_54 (c_X8_thinks hB M N) zc_X8_212 (by decide) (i := 82) (by rw [hB]; exact zsh_lt rfl (by decide)) (zg_o rfl (by decide)) rfl rfl rfl (Nat.le_of_ble_eq_true rfl) (fun g21 p22 => ?_)
          cases p22
          refine zo_nm (fun M23 hM23 => ?_)
          refine z_iconst (v := 0) o dX8_fits_57 (by decide) ?_
          refine z_istore_n (i := 3) (lv2 := [(3, .int 0), (0, zref B 82), (1, .int (nI sa)), (2, .int (nI fa))]) o dX8_fits_58 rfl (by decide) rfl ?_
          subst hM23
          have LOOP : ∀ nq kq : Nat, kq + nq = 61 → sp_find (fun k => decide (¬ sp_so (M 89) (sp_movesN (M 83) k) sa fa (sh_n M sa) = 0)) 61 0 = sp_find (fun k => decide (¬ sp_so (M 89) (sp_movesN (M 83) k) sa fa (sh_n M sa) = 0)) nq kq → ∀ M1 : zM, M1 83 = sp_movesN (M 83) kq → zSm (va_up M 85 (M 83)) M1 → zW X B (zg B M1 N) 59 [(3, .int (nI kq)), (0, zref B 82), (1, .int (nI sa)), (2, .int (nI fa))] [] := by
            intro nq
            induction nq with
            | zero =>
              intro kq hkq hs M1 hr1 hS1
              obtain rfl : kq = 61 := by omega
              have hf : sp_fit (M 89) (M 83) sa fa (sh_n M sa) = 61 := hs
              have hok1 : zOkAll (M1 83) := by rw [hr1]; exact okA_movesN hok _
              have e89 : M1 89 = M 89 := by rw [hS1 89 (by decide) (by decide) (by decide), va_up_ne _ _ (by decide)]
              have e88 : M1 88 sa = nI (sh_n M sa) := by rw [hS1 88 (by decide) (by decide) (by decide), va_up_ne _ _ (by decide)]; exact hsn
              refine z_iload_n (j := 0) o dX8_fits_59 rfl ?_
              refine z_bipush (v := 60) o dX8_fits_60 (by decide) ?_
              refine z_icmpgt (tgt := 84) o dX8_fits_62 (by decide) (fun c24 => ?_) (fun c24 => ?_)
              · refine z_aload_n (j := 1) o dX8_fits_84 rfl ?_
                refine z_callVv (As := []) (n := 0) (st := []) o dX8_fits_85 (c_X8_putsBack hB M1 N) zc_X8_215 (by decide) (i := 82) (by rw [hB]; exact zsh_lt rfl (by decide)) (zg_o rfl (by decide)) rfl rfl rfl (Nat.le_of_ble_eq_true rfl) (fun g26 p27 => ?_)
                cases p27
                refine zo_nm (fun M28 hM28 => ?_)
                refine z_iload_n (j := 0) o dX8_fits_88 rfl ?_
                refine z_bipush (v := 60) o dX8_fits_89 (by decide) ?_
                refine z_icmple (tgt := 103) o dX8_fits_91 (by decide) (fun c29 => ?_) (fun c29 => ?_)
                · exact absurd (nI_lt (a := 60) (b := 61) (by omega) (by omega)) c29
                · refine z_aload_n (j := 1) o dX8_fits_94 rfl ?_
                  refine z_ldc (v := (-1000000002)) o dX8_fits_95 zk_X8_218 ?_
                  refine z_callVi (As := [.int (-1000000002)]) (n := 1) (st := []) o dX8_fits_97 (c_X8_error hB M28 N 2 (by omega)) zc_X8_101 (by decide) (i := 82) (by rw [hB]; exact zsh_lt rfl (by decide)) (zg_o rfl (by decide)) rfl rfl rfl (Nat.le_of_ble_eq_true rfl) (fun r30 g31 p32 => ?_)
                  obtain ⟨rfl, rfl⟩ := p32
                  refine zo_nm (fun M33 hM33 => ?_)
                  refine z_goto (tgt := 104) o dX8_fits_100 (by decide) ?_
                  exact kret _ _ _ _ dX8_fits_104 ⟨_, rfl, by unfold sq_fits; (try rw [zn_nI (n := sa) (by omega)]); (try rw [zn_nI (n := fa) (by omega)]); rw [if_neg c4, if_neg c11, if_neg c12, if_pos c19, if_pos (show 60 < nI (sp_fit (M 89) (M 83) sa fa (sh_n M sa)) by rw [hf]; decide)] <;> (try rw [hf]) <;> (try rfl), by unfold sq_fits; (try rw [zn_nI (n := sa) (by omega)]); (try rw [zn_nI (n := fa) (by omega)]); rw [if_neg c4, if_neg c11, if_neg c12, if_pos c19, if_pos (show 60 < nI (sp_fit (M 89) (M 83) sa fa (sh_n M sa)) by rw [hf]; decide)] <;> exact (by rw [hM33]; first | exact (zQ.bk hS1).er | (subst hM28; exact (zQ.bk hS1).er))⟩
              · exact absurd (nI_lt (a := 60) (b := 61) (by omega) (by omega)) c24
            | succ nq ih =>
              intro kq hkq hs M1 hr1 hS1
              have hlt : kq < 61 := by omega
              have hok1 : zOkAll (M1 83) := by rw [hr1]; exact okA_movesN hok _
              have e89 : M1 89 = M 89 := by rw [hS1 89 (by decide) (by decide) (by decide), va_up_ne _ _ (by decide)]
              have e88 : M1 88 sa = nI (sh_n M sa) := by rw [hS1 88 (by decide) (by decide) (by decide), va_up_ne _ _ (by decide)]; exact hsn
              refine z_iload_n (j := 0) o dX8_fits_59 rfl ?_
              refine z_bipush (v := 60) o dX8_fits_60 (by decide) ?_
              refine z_icmpgt (tgt := 84) o dX8_fits_62 (by decide) (fun c34 => ?_) (fun c34 => ?_)
              · exact absurd c34 (nI_nlt (a := 60) (b := kq) (by omega) (by omega))
              · refine z_aload_n (j := 1) o dX8_fits_65 rfl ?_
                refine z_iload_n (j := 2) o dX8_fits_66 rfl ?_
                refine z_iload_n (j := 3) o dX8_fits_67 rfl ?_
                refine z_callVi (As := [.int (nI sa), .int (nI fa)]) (n := 2) (st := []) o dX8_fits_68 (c_X8_isSo hB M1 N sa fa (sh_n M sa) (by omega) (by omega) e88 (by omega)) zc_X8_230 (by decide) (i := 82) (by rw [hB]; exact zsh_lt rfl (by decide)) (zg_o rfl (by decide)) rfl rfl rfl (Nat.le_of_ble_eq_true rfl) (fun r35 g36 p37 => ?_)
                obtain ⟨rfl, rfl⟩ := p37
                refine z_ifne (tgt := 84) o dX8_fits_71 (by decide) (fun c38 => ?_) (fun c38 => ?_)
                · have hf : sp_fit (M 89) (M 83) sa fa (sh_n M sa) = kq := hs.trans (sp_find_t (decide_eq_true ((by rw [← hr1, ← e89]; exact c38))))
                  refine z_aload_n (j := 1) o dX8_fits_84 rfl ?_
                  refine z_callVv (As := []) (n := 0) (st := []) o dX8_fits_85 (c_X8_putsBack hB M1 N) zc_X8_215 (by decide) (i := 82) (by rw [hB]; exact zsh_lt rfl (by decide)) (zg_o rfl (by decide)) rfl rfl rfl (Nat.le_of_ble_eq_true rfl) (fun g40 p41 => ?_)
                  cases p41
                  refine zo_nm (fun M42 hM42 => ?_)
                  refine z_iload_n (j := 0) o dX8_fits_88 rfl ?_
                  refine z_bipush (v := 60) o dX8_fits_89 (by decide) ?_
                  refine z_icmple (tgt := 103) o dX8_fits_91 (by decide) (fun c43 => ?_) (fun c43 => ?_)
                  · refine z_iload_n (j := 0) o dX8_fits_103 rfl ?_
                    exact kret _ _ _ _ dX8_fits_104 ⟨_, rfl, by unfold sq_fits; (try rw [zn_nI (n := sa) (by omega)]); (try rw [zn_nI (n := fa) (by omega)]); rw [if_neg c4, if_neg c11, if_neg c12, if_pos c19, if_neg (show ¬ 60 < nI (sp_fit (M 89) (M 83) sa fa (sh_n M sa)) by rw [hf]; exact nI_nlt (a := 60) (by omega) (by omega))] <;> (try rw [hf]) <;> (try rfl), by unfold sq_fits; (try rw [zn_nI (n := sa) (by omega)]); (try rw [zn_nI (n := fa) (by omega)]); rw [if_neg c4, if_neg c11, if_neg c12, if_pos c19, if_neg (show ¬ 60 < nI (sp_fit (M 89) (M 83) sa fa (sh_n M sa)) by rw [hf]; exact nI_nlt (a := 60) (by omega) (by omega))] <;> exact (by rw [hM42]; exact zQ.bk hS1)⟩
                  · exact absurd c43 (nI_nlt (a := 60) (b := kq) (by omega) (by omega))
                · have hs2 : sp_find (fun k => decide (¬ sp_so (M 89) (sp_movesN (M 83) k) sa fa (sh_n M sa) = 0)) 61 0 = sp_find (fun k => decide (¬ sp_so (M 89) (sp_movesN (M 83) k) sa fa (sh_n M sa) = 0)) nq (kq + 1) := hs.trans (sp_find_f (decide_eq_false ((by rw [← hr1, ← e89]; exact fun q => q c38))))
                  refine z_aload_n (j := 1) o dX8_fits_74 rfl ?_
                  refine z_callVv (As := []) (n := 0) (st := []) o dX8_fits_75 (c_X8_moves hB M1 N hok1.1) zc_X8_195 (by decide) (i := 82) (by rw [hB]; exact zsh_lt rfl (by decide)) (zg_o rfl (by decide)) rfl rfl rfl (Nat.le_of_ble_eq_true rfl) (fun g45 p46 => ?_)
                  cases p46
                  refine zo_nm (fun M47 hM47 => ?_)
                  refine z_iinc (j := 0) (v := nI (kq + 1)) (lv2 := [(3, .int (nI (kq + 1))), (0, zref B 82), (1, .int (nI sa)), (2, .int (nI fa))]) o dX8_fits_78 rfl (zn_ofInt _) (by decide) rfl ?_
                  refine z_goto (tgt := 59) o dX8_fits_81 (by decide) ?_
                  refine zo_lv [0, 1, 2, 3] rfl ?_
                  exact ih (kq + 1) (by omega) hs2 M47 (by rw [hM47, va_up_self, hr1]; rfl) (by rw [hM47]; exact hS1.mv)
          refine zo_lv [0, 1, 2, 3] rfl ?_
          exact LOOP 61 0 rfl rfl (va_up M 85 (M 83)) (va_up_ne _ _ (by decide)) zSm.rf
        · refine z_aload_n (j := 0) o dX8_fits_46 rfl ?_
          refine z_ldc (v := (-1000000002)) o dX8_fits_47 zk_X8_218 ?_
          refine z_callVi (As := [.int (-1000000002)]) (n := 1) (st := []) o dX8_fits_49 (c_X8_error hB M N 2 (by omega)) zc_X8_101 (by decide) (i := 82) (by rw [hB]; exact zsh_lt rfl (by decide)) (zg_o rfl (by decide)) rfl rfl rfl (Nat.le_of_ble_eq_true rfl) (fun r48 g49 p50 => ?_)
          obtain ⟨rfl, rfl⟩ := p50
          exact kret _ _ _ _ dX8_fits_52 ⟨_, rfl, by unfold sq_fits; (try rw [zn_nI (n := sa) (by omega)]); (try rw [zn_nI (n := fa) (by omega)]); rw [if_neg c4, if_neg c11, if_neg c12, if_neg c19] <;> (try rfl), by unfold sq_fits; (try rw [zn_nI (n := sa) (by omega)]); (try rw [zn_nI (n := fa) (by omega)]); rw [if_neg c4, if_neg c11, if_neg c12, if_neg c19] <;> exact zQ.rf⟩
    · refine z_aload_n (j := 0) o dX8_fits_15 rfl ?_
      refine z_ldc (v := (-1000000001)) o dX8_fits_16 zk_X8_100 ?_
      refine z_callVi (As := [.int (-1000000001)]) (n := 1) (st := []) o dX8_fits_18 (c_X8_error hB M N 1 (by omega)) zc_X8_101 (by decide) (i := 82) (by rw [hB]; exact zsh_lt rfl (by decide)) (zg_o rfl (by decide)) rfl rfl rfl (Nat.le_of_ble_eq_true rfl) (fun r51 g52 p53 => ?_)
      obtain ⟨rfl, rfl⟩ := p53
      exact kret _ _ _ _ dX8_fits_21 ⟨_, rfl, by unfold sq_fits; (try rw [zn_nI (n := sa) (by omega)]); rw [if_neg c4, if_pos c11] <;> (try rfl), by unfold sq_fits; (try rw [zn_nI (n := sa) (by omega)]); rw [if_neg c4, if_pos c11] <;> exact zQ.rf⟩

