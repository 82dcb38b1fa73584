/-! the reference: what it answers to a call (5) -/
def sq_law (M : zM) (u : Int32) (a : Int32) (b : Int32) (c : Int32) : Int32 × zM :=
  if zin u 0 1 = 0 then (zE 1, zEr M 1) else (sp_gives (M 83) (zn u) a b c, M)
set_option maxHeartbeats 4000000 in
set_option maxRecDepth 100000 in
theorem c_X8_law {B : zB} (hB : znn B = 95) (M : zM) (N : zN) (u : Int32) (a : Int32) (b : Int32) (c : Int32) (hok : zOkAll (M 83)) : zCi B (zg B M N) yX8_law cX8_law 5 (some .int) 5 [zref B 82, .int u, .int a, .int b, .int c] (fun r g' => ∃ M' : zM, g' = zg B M' N ∧ r = (sq_law M u a b c).1 ∧ zQ (sq_law M u a b c).2 M') := by
  refine zCi_of (by decide +kernel) (Nat.le_of_ble_eq_true rfl) .int rfl (fun _ _ _ => rfl) ?_
  intro X o kret
  show zW X B (zg B M N) 0 [(0, zref B 82), (1, .int u), (2, .int a), (3, .int b), (4, .int c)] []
  obtain ⟨hnf, hnf4⟩ := ok_nf2 hok.1
  obtain ⟨hnc, hnc6⟩ := ok_nc2 hok.1
  refine z_iload_n (j := 1) o dX8_law_0 rfl ?_
  refine z_iconst (v := 0) o dX8_law_1 (by decide) ?_
  refine z_iconst (v := 1) o dX8_law_2 (by decide) ?_
  refine z_callSi (As := [.int u, .int 0, .int 1]) (n := 3) (st := []) o dX8_law_3 (c_X8_in hB M N u 0 1) zc_X8_51 (by decide) rfl rfl (Nat.le_of_ble_eq_true rfl) (fun r1 g2 p3 => ?_)
  obtain ⟨rfl, rfl⟩ := p3
  refine z_ifeq (tgt := 21) o dX8_law_6 (by decide) (fun c4 => ?_) (fun c4 => ?_)
  · refine z_aload_n (j := 0) o dX8_law_21 rfl ?_
    refine z_ldc (v := (-1000000001)) o dX8_law_22 zk_X8_100 ?_
    refine z_callVi (As := [.int (-1000000001)]) (n := 1) (st := []) o dX8_law_24 (c_X8_error hB M N 1 (by omega)) zc_X8_101 (by decide) (i := 82) (by rw [hB]; exact zsh_lt rfl (by decide)) (zg_o rfl (by decide)) rfl rfl rfl (Nat.le_of_ble_eq_true rfl) (fun r5 g6 p7 => ?_)
    obtain ⟨rfl, rfl⟩ := p7
    exact kret _ _ _ _ dX8_law_27 ⟨_, rfl, by unfold sq_law;  rw [if_pos c4] <;> (try rfl), by unfold sq_law;  rw [if_pos c4] <;> exact zQ.rf⟩
  · obtain ⟨ua, hua, eua⟩ := zin_lit (n := 1) rfl (by decide) c4
    subst eua
    refine z_aload_n (j := 0) o dX8_law_9 rfl ?_
    refine z_iload_n (j := 1) o dX8_law_10 rfl ?_
    refine z_iload_n (j := 2) o dX8_law_11 rfl ?_
    refine z_iload_n (j := 3) o dX8_law_12 rfl ?_
    refine z_iload (j := 4) o dX8_law_13 rfl ?_
    refine z_callVi (As := [.int (nI ua), .int a, .int b, .int c]) (n := 4) (st := []) o dX8_law_15 (c_X8_gives hB M N ua a b c (by omega) hok) zc_X8_92 (by decide) (i := 82) (by rw [hB]; exact zsh_lt rfl (by decide)) (zg_o rfl (by decide)) rfl rfl rfl (Nat.le_of_ble_eq_true rfl) (fun r8 g9 p10 => ?_)
    obtain ⟨F11, P12, rfl, rfl⟩ := p10
    refine z_goto (tgt := 27) o dX8_law_18 (by decide) ?_
    exact kret _ _ _ _ dX8_law_27 ⟨_, rfl, by unfold sq_law; (try rw [zn_nI (n := ua) (by omega)]); rw [if_neg c4] <;> (try rfl), by unfold sq_law; (try rw [zn_nI (n := ua) (by omega)]); rw [if_neg c4] <;> exact ((zQ.rf.va (i := 92) (by decide)).va (i := 93) (by decide))⟩

def sq_fenceIs (M : zM) (f : Int32) (w : Int32) : Int32 × zM :=
  if zin f 0 (M 83 2 - 1) = 0 then (zE 1, zEr M 1) else if zin w 0 6 = 0 then (zE 1, zEr M 1) else if w < 5 then (M 83 (6 + 13 * zn f + zn w), M) else if w = 5 then (nI (lpop (sp_ins (M 83) (zn f))), M) else (sp_graze (M 83) (zn f), M)
set_option maxHeartbeats 4000000 in
set_option maxRecDepth 100000 in
theorem c_X8_fenceIs {B : zB} (hB : znn B = 95) (M : zM) (N : zN) (f : Int32) (w : Int32) (hok : zOkAll (M 83)) : zCi B (zg B M N) yX8_fenceIs cX8_fenceIs 3 (some .int) 5 [zref B 82, .int f, .int w] (fun r g' => ∃ M' : zM, g' = zg B M' N ∧ r = (sq_fenceIs M f w).1 ∧ zQ (sq_fenceIs M f w).2 M') := by
  refine zCi_of (by decide +kernel) (Nat.le_of_ble_eq_true rfl) .int rfl (fun _ _ _ => rfl) ?_
  intro X o kret
  show zW X B (zg B M N) 0 [(0, zref B 82), (1, .int f), (2, .int w)] []
  obtain ⟨hnf, hnf4⟩ := ok_nf2 hok.1
  obtain ⟨hnc, hnc6⟩ := ok_nc2 hok.1
  refine z_aload_n (j := 0) o dX8_fenceIs_0 rfl ?_
  refine z_iload_n (j := 1) o dX8_fenceIs_1 rfl ?_
  refine z_callVi (As := [.int f]) (n := 1) (st := []) o dX8_fenceIs_2 (c_X8_isFence hB M N f) zc_X8_106 (by decide) (i := 82) (by rw [hB]; exact zsh_lt rfl (by decide)) (zg_o rfl (by decide)) rfl rfl rfl (Nat.le_of_ble_eq_true rfl) (fun r1 g2 p3 => ?_)
  obtain ⟨rfl, rfl⟩ := p3
  refine z_ifeq (tgt := 18) o dX8_fenceIs_5 (by decide) (fun c4 => ?_) (fun c4 => ?_)
  · refine z_aload_n (j := 0) o dX8_fenceIs_18 rfl ?_
    refine z_ldc (v := (-1000000001)) o dX8_fenceIs_19 zk_X8_100 ?_
    refine z_callVi (As := [.int (-1000000001)]) (n := 1) (st := []) o dX8_fenceIs_21 (c_X8_error hB M N 1 (by omega)) zc_X8_101 (by decide) (i := 82) (by rw [hB]; exact zsh_lt rfl (by decide)) (zg_o rfl (by decide)) rfl rfl rfl (Nat.le_of_ble_eq_true rfl) (fun r5 g6 p7 => ?_)
    obtain ⟨rfl, rfl⟩ := p7
    exact kret _ _ _ _ dX8_fenceIs_24 ⟨_, rfl, by unfold sq_fenceIs;  rw [if_pos c4] <;> (try rfl), by unfold sq_fenceIs;  rw [if_pos c4] <;> exact zQ.rf⟩
  · have hzf := c4
    rw [hnf] at hzf
    obtain ⟨fa, hfa, efa⟩ := zin_nat (by omega) hzf
    subst efa
    refine z_iload_n (j := 2) o dX8_fenceIs_8 rfl ?_
    refine z_iconst (v := 0) o dX8_fenceIs_9 (by decide) ?_
    refine z_bipush (v := 6) o dX8_fenceIs_10 (by decide) ?_
    refine z_callSi (As := [.int w, .int 0, .int 6]) (n := 3) (st := []) o dX8_fenceIs_12 (c_X8_in hB M N w 0 6) zc_X8_51 (by decide) rfl rfl (Nat.le_of_ble_eq_true rfl) (fun r8 g9 p10 => ?_)
    obtain ⟨rfl, rfl⟩ := p10
    refine z_ifne (tgt := 25) o dX8_fenceIs_15 (by decide) (fun c11 => ?_) (fun c11 => ?_)
    · obtain ⟨wa, hwa, ewa⟩ := zin_lit (n := 6) rfl (by decide) c11
      subst ewa
      refine z_iload_n (j := 2) o dX8_fenceIs_25 rfl ?_
      refine z_iconst (v := 5) o dX8_fenceIs_26 (by decide) ?_
      refine z_icmpge (tgt := 39) o dX8_fenceIs_27 (by decide) (fun c12 => ?_) (fun c12 => ?_)
      · refine z_iload_n (j := 2) o dX8_fenceIs_39 rfl ?_
        refine z_iconst (v := 5) o dX8_fenceIs_40 (by decide) ?_
        refine z_icmpne (tgt := 55) o dX8_fenceIs_41 (by decide) (fun c13 => ?_) (fun c13 => ?_)
        · refine z_aload_n (j := 0) o dX8_fenceIs_55 rfl ?_
          refine z_iload_n (j := 1) o dX8_fenceIs_56 rfl ?_
          refine z_callVi (As := [.int (nI fa)]) (n := 1) (st := []) o dX8_fenceIs_57 (c_X8_grazeOf hB M N fa (by omega) hok) zc_X8_112 (by decide) (i := 82) (by rw [hB]; exact zsh_lt rfl (by decide)) (zg_o rfl (by decide)) rfl rfl rfl (Nat.le_of_ble_eq_true rfl) (fun r14 g15 p16 => ?_)
          obtain ⟨F17, P18, rfl, rfl⟩ := p16
          exact kret _ _ _ _ dX8_fenceIs_60 ⟨_, rfl, by unfold sq_fenceIs; (try rw [zn_nI (n := fa) (by omega)]); (try rw [zn_nI (n := wa) (by omega)]); rw [if_neg c4, if_neg c11, if_neg c12, if_neg c13] <;> (try rfl), by unfold sq_fenceIs; (try rw [zn_nI (n := fa) (by omega)]); (try rw [zn_nI (n := wa) (by omega)]); rw [if_neg c4, if_neg c11, if_neg c12, if_neg c13] <;> exact ((zQ.rf.va (i := 92) (by decide)).va (i := 93) (by decide))⟩
        · refine z_aload_n (j := 0) o dX8_fenceIs_44 rfl ?_
          refine z_iload_n (j := 1) o dX8_fenceIs_45 rfl ?_
          refine z_callVl (As := [.int (nI fa)]) (n := 1) (st := []) o dX8_fenceIs_46 (c_X8_insideOf hB M N fa (by omega) hok.1) zc_X8_85 (by decide) (i := 82) (by rw [hB]; exact zsh_lt rfl (by decide)) (zg_o rfl (by decide)) rfl rfl rfl (Nat.le_of_ble_eq_true rfl) (fun r19 g20 p21 => ?_)
          obtain ⟨rfl, rfl⟩ := p21
          refine z_callSi (As := [.long (sp_ins (M 83) fa)]) (n := 1) (st := []) o dX8_fenceIs_49 (c_X8_bits hB M N (sp_ins (M 83) fa)) zc_X8_88 (by decide) rfl rfl (Nat.le_of_ble_eq_true rfl) (fun r22 g23 p24 => ?_)
          obtain ⟨rfl, rfl⟩ := p24
          refine z_goto (tgt := 60) o dX8_fenceIs_52 (by decide) ?_
          exact kret _ _ _ _ dX8_fenceIs_60 ⟨_, rfl, by unfold sq_fenceIs; (try rw [zn_nI (n := fa) (by omega)]); (try rw [zn_nI (n := wa) (by omega)]); rw [if_neg c4, if_neg c11, if_neg c12, if_pos c13] <;> (try rfl), by unfold sq_fenceIs; (try rw [zn_nI (n := fa) (by omega)]); (try rw [zn_nI (n := wa) (by omega)]); rw [if_neg c4, if_neg c11, if_neg c12, if_pos c13] <;> exact zQ.rf⟩
      · refine z_aload_n (j := 0) o dX8_fenceIs_30 rfl ?_
        refine z_iload_n (j := 1) o dX8_fenceIs_31 rfl ?_
        refine z_iload_n (j := 2) o dX8_fenceIs_32 rfl ?_
        refine z_callVi (As := [.int (nI fa), .int (nI wa)]) (n := 2) (st := []) o dX8_fenceIs_33 (c_X8_of hB M N fa wa (by omega)) zc_X8_55 (by decide) (i := 82) (by rw [hB]; exact zsh_lt rfl (by decide)) (zg_o rfl (by decide)) rfl rfl rfl (Nat.le_of_ble_eq_true rfl) (fun r25 g26 p27 => ?_)
        obtain ⟨rfl, rfl⟩ := p27
        refine z_goto (tgt := 60) o dX8_fenceIs_36 (by decide) ?_
        exact kret _ _ _ _ dX8_fenceIs_60 ⟨_, rfl, by unfold sq_fenceIs; (try rw [zn_nI (n := fa) (by omega)]); (try rw [zn_nI (n := wa) (by omega)]); rw [if_neg c4, if_neg c11, if_pos c12] <;> (try rfl), by unfold sq_fenceIs; (try rw [zn_nI (n := fa) (by omega)]); (try rw [zn_nI (n := wa) (by omega)]); rw [if_neg c4, if_neg c11, if_pos c12] <;> exact zQ.rf⟩
    · refine z_aload_n (j := 0) o dX8_fenceIs_18 rfl ?_
      refine z_ldc (v := (-1000000001)) o dX8_fenceIs_19 zk_X8_100 ?_
      refine z_callVi (As := [.int (-1000000001)]) (n := 1) (st := []) o dX8_fenceIs_21 (c_X8_error hB M N 1 (by omega)) zc_X8_101 (by decide) (i := 82) (by rw [hB]; exact zsh_lt rfl (by decide)) (zg_o rfl (by decide)) rfl rfl rfl (Nat.le_of_ble_eq_true rfl) (fun r28 g29 p30 => ?_)
      obtain ⟨rfl, rfl⟩ := p30
      exact kret _ _ _ _ dX8_fenceIs_24 ⟨_, rfl, by unfold sq_fenceIs; (try rw [zn_nI (n := fa) (by omega)]); rw [if_neg c4, if_pos c11] <;> (try rfl), by unfold sq_fenceIs; (try rw [zn_nI (n := fa) (by omega)]); rw [if_neg c4, if_pos c11] <;> exact zQ.rf⟩

def sq_cowIs (M : zM) (c : Int32) (w : Int32) : Int32 × zM :=
  if zin c 0 (M 83 3 - 1) = 0 then (zE 1, zEr M 1) else if zin w 0 2 = 0 then (zE 1, zEr M 1) else if w < 2 then (M 83 (58 + 2 * zn c + zn w), M) else (sp_brand (M 83) (zn (M 83 (58 + 2 * zn c))), M)
set_option maxHeartbeats 4000000 in
set_option maxRecDepth 100000 in
theorem c_X8_cowIs {B : zB} (hB : znn B = 95) (M : zM) (N : zN) (c : Int32) (w : Int32) (hok : zOkAll (M 83)) : zCi B (zg B M N) yX8_cowIs cX8_cowIs 3 (some .int) 5 [zref B 82, .int c, .int w] (fun r g' => ∃ M' : zM, g' = zg B M' N ∧ r = (sq_cowIs M c w).1 ∧ zQ (sq_cowIs M c w).2 M') := by
  refine zCi_of (by decide +kernel) (Nat.le_of_ble_eq_true rfl) .int rfl (fun _ _ _ => rfl) ?_
  intro X o kret
  show zW X B (zg B M N) 0 [(0, zref B 82), (1, .int c), (2, .int w)] []
  obtain ⟨hnf, hnf4⟩ := ok_nf2 hok.1
  obtain ⟨hnc, hnc6⟩ := ok_nc2 hok.1
  refine z_aload_n (j := 0) o dX8_cowIs_0 rfl ?_
  refine z_iload_n (j := 1) o dX8_cowIs_1 rfl ?_
  refine z_callVi (As := [.int c]) (n := 1) (st := []) o dX8_cowIs_2 (c_X8_isCow hB M N c) zc_X8_124 (by decide) (i := 82) (by rw [hB]; exact zsh_lt rfl (by decide)) (zg_o rfl (by decide)) rfl rfl rfl (Nat.le_of_ble_eq_true rfl) (fun r1 g2 p3 => ?_)
  obtain ⟨rfl, rfl⟩ := p3
  refine z_ifeq (tgt := 17) o dX8_cowIs_5 (by decide) (fun c4 => ?_) (fun c4 => ?_)
  · refine z_aload_n (j := 0) o dX8_cowIs_17 rfl ?_
    refine z_ldc (v := (-1000000001)) o dX8_cowIs_18 zk_X8_100 ?_
    refine z_callVi (As := [.int (-1000000001)]) (n := 1) (st := []) o dX8_cowIs_20 (c_X8_error hB M N 1 (by omega)) zc_X8_101 (by decide) (i := 82) (by rw [hB]; exact zsh_lt rfl (by decide)) (zg_o rfl (by decide)) rfl rfl rfl (Nat.le_of_ble_eq_true rfl) (fun r5 g6 p7 => ?_)
    obtain ⟨rfl, rfl⟩ := p7
    exact kret _ _ _ _ dX8_cowIs_23 ⟨_, rfl, by unfold sq_cowIs;  rw [if_pos c4] <;> (try rfl), by unfold sq_cowIs;  rw [if_pos c4] <;> exact zQ.rf⟩
  · have hzc := c4
    rw [hnc] at hzc
    obtain ⟨ca, hca, eca⟩ := zin_nat (by omega) hzc
    subst eca
    refine z_iload_n (j := 2) o dX8_cowIs_8 rfl ?_
    refine z_iconst (v := 0) o dX8_cowIs_9 (by decide) ?_
    refine z_iconst (v := 2) o dX8_cowIs_10 (by decide) ?_
    refine z_callSi (As := [.int w, .int 0, .int 2]) (n := 3) (st := []) o dX8_cowIs_11 (c_X8_in hB M N w 0 2) zc_X8_51 (by decide) rfl rfl (Nat.le_of_ble_eq_true rfl) (fun r8 g9 p10 => ?_)
    obtain ⟨rfl, rfl⟩ := p10
    refine z_ifne (tgt := 24) o dX8_cowIs_14 (by decide) (fun c11 => ?_) (fun c11 => ?_)
    · obtain ⟨wa, hwa, ewa⟩ := zin_lit (n := 2) rfl (by decide) c11
      subst ewa
      refine z_iload_n (j := 2) o dX8_cowIs_24 rfl ?_
      refine z_iconst (v := 2) o dX8_cowIs_25 (by decide) ?_
      refine z_icmpge (tgt := 45) o dX8_cowIs_26 (by decide) (fun c12 => ?_) (fun c12 => ?_)
      · obtain ⟨cq, hcq, ecq⟩ := hok.1 _ _ (zbd_c (i := ca) (by omega))
        refine z_aload_n (j := 0) o dX8_cowIs_45 rfl ?_
        refine z_aload_n (j := 0) o dX8_cowIs_46 rfl ?_
        refine zo_get (i := 82) o hB dX8_cowIs_47 zf_X8_9 rfl (by decide) rfl ?_
        refine z_bipush (v := 58) o dX8_cowIs_50 (by decide) ?_
        refine z_iconst (v := 2) o dX8_cowIs_52 (by decide) ?_
        refine z_iload_n (j := 1) o dX8_cowIs_53 rfl ?_
        refine z_imul o dX8_cowIs_54 ?_
        refine zo_rw (y := nI (2 * ca)) (zn_mul (rfl) (rfl)) ?_
        refine z_iadd o dX8_cowIs_55 ?_
        refine zo_rw (y := nI (58 + 2 * ca)) (zn_add (rfl) (rfl)) ?_
        refine zo_iald (i := 83) (j := 58 + 2 * ca) o hB dX8_cowIs_56 rfl (show 58 + 2 * ca < 524 by omega) (by decide) ?_
        refine zo_rw (y := nI cq) (ecq) ?_
        refine z_callVi (As := [.int (nI cq)]) (n := 1) (st := []) o dX8_cowIs_57 (c_X8_brandOf hB M N cq (by omega) hok.1) zc_X8_127 (by decide) (i := 82) (by rw [hB]; exact zsh_lt rfl (by decide)) (zg_o rfl (by decide)) rfl rfl rfl (Nat.le_of_ble_eq_true rfl) (fun r13 g14 p15 => ?_)
        obtain ⟨rfl, rfl⟩ := p15
        exact kret _ _ _ _ dX8_cowIs_60 ⟨_, rfl, by unfold sq_cowIs; (try rw [zn_nI (n := ca) (by omega)]); (try rw [zn_nI (n := wa) (by omega)]); (try rw [ecq]); (try rw [zn_nI (n := cq) (by omega)]); rw [if_neg c4, if_neg c11, if_neg c12] <;> (try rfl), by unfold sq_cowIs; (try rw [zn_nI (n := ca) (by omega)]); (try rw [zn_nI (n := wa) (by omega)]); (try rw [ecq]); (try rw [zn_nI (n := cq) (by omega)]); rw [if_neg c4, if_neg c11, if_neg c12] <;> exact zQ.rf⟩
      · refine z_aload_n (j := 0) o dX8_cowIs_29 rfl ?_
        refine zo_get (i := 82) o hB dX8_cowIs_30 zf_X8_9 rfl (by decide) rfl ?_
        refine z_bipush (v := 58) o dX8_cowIs_33 (by decide) ?_
        refine z_iconst (v := 2) o dX8_cowIs_35 (by decide) ?_
        refine z_iload_n (j := 1) o dX8_cowIs_36 rfl ?_
        refine z_imul o dX8_cowIs_37 ?_
        refine zo_rw (y := nI (2 * ca)) (zn_mul (rfl) (rfl)) ?_
        refine z_iadd o dX8_cowIs_38 ?_
        refine zo_rw (y := nI (58 + 2 * ca)) (zn_add (rfl) (rfl)) ?_
        refine z_iload_n (j := 2) o dX8_cowIs_39 rfl ?_
        refine z_iadd o dX8_cowIs_40 ?_
        refine zo_rw (y := nI (58 + 2 * ca + wa)) (zn_add (rfl) (rfl)) ?_
        refine zo_iald (i := 83) (j := 58 + 2 * ca + wa) o hB dX8_cowIs_41 rfl (show 58 + 2 * ca + wa < 524 by omega) (by decide) ?_
        refine z_goto (tgt := 60) o dX8_cowIs_42 (by decide) ?_
        exact kret _ _ _ _ dX8_cowIs_60 ⟨_, rfl, by unfold sq_cowIs; (try rw [zn_nI (n := ca) (by omega)]); (try rw [zn_nI (n := wa) (by omega)]); (try rw [ecq]); (try rw [zn_nI (n := cq) (by omega)]); rw [if_neg c4, if_neg c11, if_pos c12] <;> (try rfl), by unfold sq_cowIs; (try rw [zn_nI (n := ca) (by omega)]); (try rw [zn_nI (n := wa) (by omega)]); (try rw [ecq]); (try rw [zn_nI (n := cq) (by omega)]); rw [if_neg c4, if_neg c11, if_pos c12] <;> exact zQ.rf⟩
    · refine z_aload_n (j := 0) o dX8_cowIs_17 rfl ?_
      refine z_ldc (v := (-1000000001)) o dX8_cowIs_18 zk_X8_100 ?_
      refine z_callVi (As := [.int (-1000000001)]) (n := 1) (st := []) o dX8_cowIs_20 (c_X8_error hB M N 1 (by omega)) zc_X8_101 (by decide) (i := 82) (by rw [hB]; exact zsh_lt rfl (by decide)) (zg_o rfl (by decide)) rfl rfl rfl (Nat.le_of_ble_eq_true rfl) (fun r16 g17 p18 => ?_)
      obtain ⟨rfl, rfl⟩ := p18
      exact kret _ _ _ _ dX8_cowIs_23 ⟨_, rfl, by unfold sq_cowIs; (try rw [zn_nI (n := ca) (by omega)]); (try rw [ecq]); (try rw [zn_nI (n := cq) (by omega)]); rw [if_neg c4, if_pos c11] <;> (try rfl), by unfold sq_cowIs; (try rw [zn_nI (n := ca) (by omega)]); (try rw [ecq]); (try rw [zn_nI (n := cq) (by omega)]); rw [if_neg c4, if_pos c11] <;> exact zQ.rf⟩

def sq_dawns (M : zM) (n : Int32) : Int32 × zM :=
  if zin n 1 60 = 0 then (zE 1, zEr M 1) else if 9999 < M 83 0 + n then (zE 3, zEr M 3) else (sp_goesN (M 83) (zn n) 0, va_up M 83 (sp_goesN (M 83) (zn n)))
set_option maxHeartbeats 4000000 in
set_option maxRecDepth 100000 in
theorem c_X8_dawns {B : zB} (hB : znn B = 95) (M : zM) (N : zN) (n : Int32) (hok : zOkAll (M 83)) : zCi B (zg B M N) yX8_dawns cX8_dawns 3 (some .int) 5 [zref B 82, .int n] (fun r g' => ∃ M' : zM, g' = zg B M' N ∧ r = (sq_dawns M n).1 ∧ zQ (sq_dawns M n).2 M') := by
  refine zCi_of (by decide +kernel) (Nat.le_of_ble_eq_true rfl) .int rfl (fun _ _ _ => rfl) ?_
  intro X o kret
  show zW X B (zg B M N) 0 [(0, zref B 82), (1, .int n)] []
  obtain ⟨hnf, hnf4⟩ := ok_nf2 hok.1
  obtain ⟨hnc, hnc6⟩ := ok_nc2 hok.1
  refine z_iload_n (j := 1) o dX8_dawns_0 rfl ?_
  refine z_iconst (v := 1) o dX8_dawns_1 (by decide) ?_
  refine z_bipush (v := 60) o dX8_dawns_2 (by decide) ?_
  refine z_callSi (As := [.int n, .int 1, .int 60]) (n := 3) (st := []) o dX8_dawns_4 (c_X8_in hB M N n 1 60) zc_X8_51 (by decide) rfl rfl (Nat.le_of_ble_eq_true rfl) (fun r1 g2 p3 => ?_)
  obtain ⟨rfl, rfl⟩ := p3
  refine z_ifne (tgt := 17) o dX8_dawns_7 (by decide) (fun c4 => ?_) (fun c4 => ?_)
  · obtain ⟨na, lna, hna, ena⟩ := zin_rng (lo := 1) (n := 60) rfl rfl (by decide) c4
    subst ena
    refine z_aload_n (j := 0) o dX8_dawns_17 rfl ?_
    refine zo_get (i := 82) o hB dX8_dawns_18 zf_X8_9 rfl (by decide) rfl ?_
    refine z_iconst (v := 0) o dX8_dawns_21 (by decide) ?_
    refine zo_iald (i := 83) (j := 0) o hB dX8_dawns_22 rfl (show 0 < 524 by omega) (by decide) ?_
    refine z_iload_n (j := 1) o dX8_dawns_23 rfl ?_
    refine z_iadd o dX8_dawns_24 ?_
    refine z_sipush (v := 9999) o dX8_dawns_25 (by decide) ?_
    refine z_icmple (tgt := 38) o dX8_dawns_28 (by decide) (fun c5 => ?_) (fun c5 => ?_)
    · refine z_iconst (v := 0) o dX8_dawns_38 (by decide) ?_
      refine z_istore_n (i := 2) (lv2 := [(2, .int 0), (0, zref B 82), (1, .int (nI na))]) o dX8_dawns_39 rfl (by decide) rfl ?_
      have LOOP : ∀ nq kq : Nat, kq + nq = na → ∀ M1 : zM, M1 83 = sp_goesN (M 83) kq → zSm M M1 → zW X B (zg B M1 N) 40 [(2, .int (nI kq)), (0, zref B 82), (1, .int (nI na))] [] := by
        intro nq
        induction nq with
        | zero =>
          intro kq hkq M1 hr1 hS1
          have hz : kq = na := by omega
          have hok1 : zOkAll (M1 83) := by rw [hr1]; exact okA_goesN hok _
          refine z_iload_n (j := 0) o dX8_dawns_40 rfl ?_
          refine z_iload_n (j := 2) o dX8_dawns_41 rfl ?_
          refine z_icmpge (tgt := 55) o dX8_dawns_42 (by decide) (fun c6 => ?_) (fun c6 => ?_)
          · refine z_aload_n (j := 1) o dX8_dawns_55 rfl ?_
            refine zo_get (i := 82) o hB dX8_dawns_56 zf_X8_9 rfl (by decide) rfl ?_
            refine z_iconst (v := 0) o dX8_dawns_59 (by decide) ?_
            refine zo_iald (i := 83) (j := 0) o hB dX8_dawns_60 rfl (show 0 < 524 by omega) (by decide) ?_
            refine zo_rw (y := sp_goesN (M 83) na 0) (by rw [hr1, hz]) ?_
            exact kret _ _ _ _ dX8_dawns_61 ⟨_, rfl, by unfold sq_dawns; (try rw [zn_nI (n := na) (by omega)]); rw [if_neg c4, if_neg c5] <;> (try rfl), by unfold sq_dawns; (try rw [zn_nI (n := na) (by omega)]); rw [if_neg c4, if_neg c5] <;> exact (by exact zQ.sm hS1 (by rw [hr1, hz]))⟩
          · exact absurd c6 (nI_nlt (a := kq) (b := na) (by omega) (by omega))
        | succ nq ih =>
          intro kq hkq M1 hr1 hS1
          have hlt : kq < na := by omega
          have hok1 : zOkAll (M1 83) := by rw [hr1]; exact okA_goesN hok _
          refine z_iload_n (j := 0) o dX8_dawns_40 rfl ?_
          refine z_iload_n (j := 2) o dX8_dawns_41 rfl ?_
          refine z_icmpge (tgt := 55) o dX8_dawns_42 (by decide) (fun c7 => ?_) (fun c7 => ?_)
          · exact absurd (nI_lt (a := kq) (b := na) (by omega) (by omega)) c7
          · refine z_aload_n (j := 1) o dX8_dawns_45 rfl ?_
            refine z_callVv (As := []) (n := 0) (st := []) o dX8_dawns_46 (c_X8_goes hB M1 N hok1) zc_X8_199 (by decide) (i := 82) (by rw [hB]; exact zsh_lt rfl (by decide)) (zg_o rfl (by decide)) rfl rfl rfl (Nat.le_of_ble_eq_true rfl) (fun g9 p10 => ?_)
            obtain ⟨M11, rfl, hRM11, hSM11⟩ := p10
            refine z_iinc (j := 0) (v := nI (kq + 1)) (lv2 := [(2, .int (nI (kq + 1))), (0, zref B 82), (1, .int (nI na))]) o dX8_dawns_49 rfl (zn_ofInt _) (by decide) rfl ?_
            refine z_goto (tgt := 40) o dX8_dawns_52 (by decide) ?_
            refine zo_lv [0, 1, 2] rfl ?_
            exact ih (kq + 1) (by omega) M11 (by rw [hRM11, hr1]; rfl) (hS1.tr hSM11)
      refine zo_lv [0, 1, 2] rfl ?_
      exact LOOP na 0 (by omega) M rfl zSm.rf
    · refine z_aload_n (j := 0) o dX8_dawns_31 rfl ?_
      refine z_ldc (v := (-1000000003)) o dX8_dawns_32 zk_X8_123 ?_
      refine z_callVi (As := [.int (-1000000003)]) (n := 1) (st := []) o dX8_dawns_34 (c_X8_error hB M N 3 (by omega)) zc_X8_101 (by decide) (i := 82) (by rw [hB]; exact zsh_lt rfl (by decide)) (zg_o rfl (by decide)) rfl rfl rfl (Nat.le_of_ble_eq_true rfl) (fun r12 g13 p14 => ?_)
      obtain ⟨rfl, rfl⟩ := p14
      exact kret _ _ _ _ dX8_dawns_37 ⟨_, rfl, by unfold sq_dawns; (try rw [zn_nI (n := na) (by omega)]); rw [if_neg c4, if_pos c5] <;> (try rfl), by unfold sq_dawns; (try rw [zn_nI (n := na) (by omega)]); rw [if_neg c4, if_pos c5] <;> exact zQ.rf⟩
  · refine z_aload_n (j := 0) o dX8_dawns_10 rfl ?_
    refine z_ldc (v := (-1000000001)) o dX8_dawns_11 zk_X8_100 ?_
    refine z_callVi (As := [.int (-1000000001)]) (n := 1) (st := []) o dX8_dawns_13 (c_X8_error hB M N 1 (by omega)) zc_X8_101 (by decide) (i := 82) (by rw [hB]; exact zsh_lt rfl (by decide)) (zg_o rfl (by decide)) rfl rfl rfl (Nat.le_of_ble_eq_true rfl) (fun r15 g16 p17 => ?_)
    obtain ⟨rfl, rfl⟩ := p17
    exact kret _ _ _ _ dX8_dawns_16 ⟨_, rfl, by unfold sq_dawns;  rw [if_pos c4] <;> (try rfl), by unfold sq_dawns;  rw [if_pos c4] <;> exact zQ.rf⟩

def sq_loose (M : zM) (n : Int32) : Int32 × zM :=
  if zin n 1 20 = 0 then (zE 1, zEr M 1) else if 9999 < M 83 0 + n then (zE 3, zEr M 3) else (sp_cnt (sp_drawnN (M 83) (zn n)) 70 64, va_up M 83 (sp_drawnN (M 83) (zn n)))
set_option maxHeartbeats 4000000 in
set_option maxRecDepth 100000 in
theorem c_X8_loose {B : zB} (hB : znn B = 95) (M : zM) (N : zN) (n : Int32) (hok : zOkAll (M 83)) : zCi B (zg B M N) yX8_loose cX8_loose 3 (some .int) 6 [zref B 82, .int n] (fun r g' => ∃ M' : zM, g' = zg B M' N ∧ r = (sq_loose M n).1 ∧ zQ (sq_loose M n).2 M') := by
  refine zCi_of (by decide +kernel) (Nat.le_of_ble_eq_true rfl) .int rfl (fun _ _ _ => rfl) ?_
  intro X o kret
  show zW X B (zg B M N) 0 [(0, zref B 82), (1, .int n)] []
  obtain ⟨hnf, hnf4⟩ := ok_nf2 hok.1
  obtain ⟨hnc, hnc6⟩ := ok_nc2 hok.1
  refine z_iload_n (j := 1) o dX8_loose_0 rfl ?_
  refine z_iconst (v := 1) o dX8_loose_1 (by decide) ?_
  refine z_bipush (v := 20) o dX8_loose_2 (by decide) ?_
  refine z_callSi (As := [.int n, .int 1, .int 20]) (n := 3) (st := []) o dX8_loose_4 (c_X8_in hB M N n 1 20) zc_X8_51 (by decide) rfl rfl (Nat.le_of_ble_eq_true rfl) (fun r1 g2 p3 => ?_)
  obtain ⟨rfl, rfl⟩ := p3
  refine z_ifne (tgt := 17) o dX8_loose_7 (by decide) (fun c4 => ?_) (fun c4 => ?_)
  · obtain ⟨na, lna, hna, ena⟩ := zin_rng (lo := 1) (n := 20) rfl rfl (by decide) c4
    subst ena
    refine z_aload_n (j := 0) o dX8_loose_17 rfl ?_
    refine zo_get (i := 82) o hB dX8_loose_18 zf_X8_9 rfl (by decide) rfl ?_
    refine z_iconst (v := 0) o dX8_loose_21 (by decide) ?_
    refine zo_iald (i := 83) (j := 0) o hB dX8_loose_22 rfl (show 0 < 524 by omega) (by decide) ?_
    refine z_iload_n (j := 1) o dX8_loose_23 rfl ?_
    refine z_iadd o dX8_loose_24 ?_
    refine z_sipush (v := 9999) o dX8_loose_25 (by decide) ?_
    refine z_icmple (tgt := 38) o dX8_loose_28 (by decide) (fun c5 => ?_) (fun c5 => ?_)
    · refine z_iconst (v := 0) o dX8_loose_38 (by decide) ?_
      refine z_istore_n (i := 2) (lv2 := [(2, .int 0), (0, zref B 82), (1, .int (nI na))]) o dX8_loose_39 rfl (by decide) rfl ?_
      have LOOP : ∀ nq kq : Nat, kq + nq = na → ∀ M1 : zM, M1 83 = sp_drawnN (M 83) kq → zSm M M1 → zW X B (zg B M1 N) 40 [(2, .int (nI kq)), (0, zref B 82), (1, .int (nI na))] [] := by
        intro nq
        induction nq with
        | zero =>
          intro kq hkq M1 hr1 hS1
          have hz : kq = na := by omega
          have hok1 : zOkAll (M1 83) := by rw [hr1]; exact okA_drawnN hok _
          refine z_iload_n (j := 0) o dX8_loose_40 rfl ?_
          refine z_iload_n (j := 2) o dX8_loose_41 rfl ?_
          refine z_icmpge (tgt := 55) o dX8_loose_42 (by decide) (fun c6 => ?_) (fun c6 => ?_)
          · refine z_aload_n (j := 1) o dX8_loose_55 rfl ?_
            refine z_bipush (v := 70) o dX8_loose_56 (by decide) ?_
            refine z_callVi (As := [.int 70]) (n := 1) (st := []) o dX8_loose_58 (c_X8_countOf hB M1 N 70 (by omega)) zc_X8_209 (by decide) (i := 82) (by rw [hB]; exact zsh_lt rfl (by decide)) (zg_o rfl (by decide)) rfl rfl rfl (Nat.le_of_ble_eq_true rfl) (fun r7 g8 p9 => ?_)
            obtain ⟨rfl, rfl⟩ := p9
            refine zo_rw (y := sp_cnt (sp_drawnN (M 83) na) 70 64) (by rw [hr1, hz]) ?_
            exact kret _ _ _ _ dX8_loose_61 ⟨_, rfl, by unfold sq_loose; (try rw [zn_nI (n := na) (by omega)]); rw [if_neg c4, if_neg c5] <;> (try rfl), by unfold sq_loose; (try rw [zn_nI (n := na) (by omega)]); rw [if_neg c4, if_neg c5] <;> exact (by exact zQ.sm hS1 (by rw [hr1, hz]))⟩
          · exact absurd c6 (nI_nlt (a := kq) (b := na) (by omega) (by omega))
        | succ nq ih =>
          intro kq hkq M1 hr1 hS1
          have hlt : kq < na := by omega
          have hok1 : zOkAll (M1 83) := by rw [hr1]; exact okA_drawnN hok _
          refine z_iload_n (j := 0) o dX8_loose_40 rfl ?_
          refine z_iload_n (j := 2) o dX8_loose_41 rfl ?_
          refine z_icmpge (tgt := 55) o dX8_loose_42 (by decide) (fun c10 => ?_) (fun c10 => ?_)
          · exact absurd (nI_lt (a := kq) (b := na) (by omega) (by omega)) c10
          · refine z_aload_n (j := 1) o dX8_loose_45 rfl ?_
            refine z_callVv (As := []) (n := 0) (st := []) o dX8_loose_46 (c_X8_drawn hB M1 N hok1) zc_X8_206 (by decide) (i := 82) (by rw [hB]; exact zsh_lt rfl (by decide)) (zg_o rfl (by decide)) rfl rfl rfl (Nat.le_of_ble_eq_true rfl) (fun g12 p13 => ?_)
            obtain ⟨M14, rfl, hRM14, hSM14⟩ := p13
            refine z_iinc (j := 0) (v := nI (kq + 1)) (lv2 := [(2, .int (nI (kq + 1))), (0, zref B 82), (1, .int (nI na))]) o dX8_loose_49 rfl (zn_ofInt _) (by decide) rfl ?_
            refine z_goto (tgt := 40) o dX8_loose_52 (by decide) ?_
            refine zo_lv [0, 1, 2] rfl ?_
            exact ih (kq + 1) (by omega) M14 (by rw [hRM14, hr1]; rfl) (hS1.tr hSM14)
      refine zo_lv [0, 1, 2] rfl ?_
      exact LOOP na 0 (by omega) M rfl zSm.rf
    · refine z_aload_n (j := 0) o dX8_loose_31 rfl ?_
      refine z_ldc (v := (-1000000003)) o dX8_loose_32 zk_X8_123 ?_
      refine z_callVi (As := [.int (-1000000003)]) (n := 1) (st := []) o dX8_loose_34 (c_X8_error hB M N 3 (by omega)) zc_X8_101 (by decide) (i := 82) (by rw [hB]; exact zsh_lt rfl (by decide)) (zg_o rfl (by decide)) rfl rfl rfl (Nat.le_of_ble_eq_true rfl) (fun r15 g16 p17 => ?_)
      obtain ⟨rfl, rfl⟩ := p17
      exact kret _ _ _ _ dX8_loose_37 ⟨_, rfl, by unfold sq_loose; (try rw [zn_nI (n := na) (by omega)]); rw [if_neg c4, if_pos c5] <;> (try rfl), by unfold sq_loose; (try rw [zn_nI (n := na) (by omega)]); rw [if_neg c4, if_pos c5] <;> exact zQ.rf⟩
  · refine z_aload_n (j := 0) o dX8_loose_10 rfl ?_
    refine z_ldc (v := (-1000000001)) o dX8_loose_11 zk_X8_100 ?_
    refine z_callVi (As := [.int (-1000000001)]) (n := 1) (st := []) o dX8_loose_13 (c_X8_error hB M N 1 (by omega)) zc_X8_101 (by decide) (i := 82) (by rw [hB]; exact zsh_lt rfl (by decide)) (zg_o rfl (by decide)) rfl rfl rfl (Nat.le_of_ble_eq_true rfl) (fun r18 g19 p20 => ?_)
    obtain ⟨rfl, rfl⟩ := p20
    exact kret _ _ _ _ dX8_loose_16 ⟨_, rfl, by unfold sq_loose;  rw [if_pos c4] <;> (try rfl), by unfold sq_loose;  rw [if_pos c4] <;> exact zQ.rf⟩

def sq_then (M : zM) (f : Int32) (n : Int32) (w : Int32) : Int32 × zM :=
  if zin f 0 (M 83 2 - 1) = 0 then (zE 1, zEr M 1) else if zin n 0 60 = 0 then (zE 1, zEr M 1) else if zin w 0 1 = 0 then (zE 1, zEr M 1) else
  if w = 0 then (nI (lpop (sp_ins (sp_goesN (M 83) (zn n)) (zn f))), M) else (sp_goesN (M 83) (zn n) (6 + 13 * zn f + 4), M)
set_option maxHeartbeats 4000000 in
set_option maxRecDepth 100000 in
theorem c_X8_then {B : zB} (hB : znn B = 95) (M : zM) (N : zN) (f : Int32) (n : Int32) (w : Int32) (hok : zOkAll (M 83)) : zCi B (zg B M N) yX8_then cX8_then 5 (some .int) 5 [zref B 82, .int f, .int n, .int w] (fun r g' => ∃ M' : zM, g' = zg B M' N ∧ r = (sq_then M f n w).1 ∧ zQ (sq_then M f n w).2 M') := by
  refine zCi_of (by decide +kernel) (Nat.le_of_ble_eq_true rfl) .int rfl (fun _ _ _ => rfl) ?_
  intro X o kret
  show zW X B (zg B M N) 0 [(0, zref B 82), (1, .int f), (2, .int n), (3, .int w)] []
  obtain ⟨hnf, hnf4⟩ := ok_nf2 hok.1
  obtain ⟨hnc, hnc6⟩ := ok_nc2 hok.1
  refine z_aload_n (j := 0) o dX8_then_0 rfl ?_
  refine z_iload_n (j := 1) o dX8_then_1 rfl ?_
  refine z_callVi (As := [.int f]) (n := 1) (st := []) o dX8_then_2 (c_X8_isFence hB M N f) zc_X8_106 (by decide) (i := 82) (by rw [hB]; exact zsh_lt rfl (by decide)) (zg_o rfl (by decide)) rfl rfl rfl (Nat.le_of_ble_eq_true rfl) (fun r1 g2 p3 => ?_)
  obtain ⟨rfl, rfl⟩ := p3
  refine z_ifeq (tgt := 27) o dX8_then_5 (by decide) (fun c4 => ?_) (fun c4 => ?_)
  · refine z_aload_n (j := 0) o dX8_then_27 rfl ?_
    refine z_ldc (v := (-1000000001)) o dX8_then_28 zk_X8_100 ?_
    refine z_callVi (As := [.int (-1000000001)]) (n := 1) (st := []) o dX8_then_30 (c_X8_error hB M N 1 (by omega)) zc_X8_101 (by decide) (i := 82) (by rw [hB]; exact zsh_lt rfl (by decide)) (zg_o rfl (by decide)) rfl rfl rfl (Nat.le_of_ble_eq_true rfl) (fun r5 g6 p7 => ?_)
    obtain ⟨rfl, rfl⟩ := p7
    exact kret _ _ _ _ dX8_then_33 ⟨_, rfl, by unfold sq_then;  rw [if_pos c4] <;> (try rfl), by unfold sq_then;  rw [if_pos c4] <;> exact zQ.rf⟩
  · have hzf := c4
    rw [hnf] at hzf
    obtain ⟨fa, hfa, efa⟩ := zin_nat (by omega) hzf
    subst efa
    refine z_iload_n (j := 2) o dX8_then_8 rfl ?_
    refine z_iconst (v := 0) o dX8_then_9 (by decide) ?_
    refine z_bipush (v := 60) o dX8_then_10 (by decide) ?_
    refine z_callSi (As := [.int n, .int 0, .int 60]) (n := 3) (st := []) o dX8_then_12 (c_X8_in hB M N n 0 60) zc_X8_51 (by decide) rfl rfl (Nat.le_of_ble_eq_true rfl) (fun r8 g9 p10 => ?_)
    obtain ⟨rfl, rfl⟩ := p10
    refine z_ifeq (tgt := 27) o dX8_then_15 (by decide) (fun c11 => ?_) (fun c11 => ?_)
    · refine z_aload_n (j := 0) o dX8_then_27 rfl ?_
      refine z_ldc (v := (-1000000001)) o dX8_then_28 zk_X8_100 ?_
      refine z_callVi (As := [.int (-1000000001)]) (n := 1) (st := []) o dX8_then_30 (c_X8_error hB M N 1 (by omega)) zc_X8_101 (by decide) (i := 82) (by rw [hB]; exact zsh_lt rfl (by decide)) (zg_o rfl (by decide)) rfl rfl rfl (Nat.le_of_ble_eq_true rfl) (fun r12 g13 p14 => ?_)
      obtain ⟨rfl, rfl⟩ := p14
      exact kret _ _ _ _ dX8_then_33 ⟨_, rfl, by unfold sq_then; (try rw [zn_nI (n := fa) (by omega)]); rw [if_neg c4, if_pos c11] <;> (try rfl), by unfold sq_then; (try rw [zn_nI (n := fa) (by omega)]); rw [if_neg c4, if_pos c11] <;> exact zQ.rf⟩
    · obtain ⟨na, hna, ena⟩ := zin_lit (n := 60) rfl (by decide) c11
      subst ena
      refine z_iload_n (j := 3) o dX8_then_18 rfl ?_
      refine z_iconst (v := 0) o dX8_then_19 (by decide) ?_
      refine z_iconst (v := 1) o dX8_then_20 (by decide) ?_
      refine z_callSi (As := [.int w, .int 0, .int 1]) (n := 3) (st := []) o dX8_then_21 (c_X8_in hB M N w 0 1) zc_X8_51 (by decide) rfl rfl (Nat.le_of_ble_eq_true rfl) (fun r15 g16 p17 => ?_)
      obtain ⟨rfl, rfl⟩ := p17
      refine z_ifne (tgt := 34) o dX8_then_24 (by decide) (fun c18 => ?_) (fun c18 => ?_)
      · refine z_aload_n (j := 0) o dX8_then_34 rfl ?_
        refine z_callVv (As := []) (n := 0) (st := []) o dX8_then_35 (c_X8_thinks hB M N) zc_X8_212 (by decide) (i := 82) (by rw [hB]; exact zsh_lt rfl (by decide)) (zg_o rfl (by decide)) rfl rfl rfl (Nat.le_of_ble_eq_true rfl) (fun g20 p21 => ?_)
        cases p21
        refine zo_nm (fun M22 hM22 => ?_)
        refine z_iconst (v := 0) o dX8_then_38 (by decide) ?_
        refine z_istore (i := 4) (lv2 := [(4, .int 0), (0, zref B 82), (1, .int (nI fa)), (2, .int (nI na)), (3, .int w)]) o dX8_then_39 (by decide) rfl ?_
        subst hM22
        have LOOP : ∀ nq kq : Nat, kq + nq = na → ∀ M1 : zM, M1 83 = sp_goesN (M 83) kq → zSm (va_up M 85 (M 83)) M1 → zW X B (zg B M1 N) 41 [(4, .int (nI kq)), (0, zref B 82), (1, .int (nI fa)), (2, .int (nI na)), (3, .int w)] [] := by
          intro nq
          induction nq with
          | zero =>
            intro kq hkq M1 hr1 hS1
            have hz : kq = na := by omega
            have hok1 : zOkAll (M1 83) := by rw [hr1]; exact okA_goesN hok _
            refine z_iload (j := 0) o dX8_then_41 rfl ?_
            refine z_iload_n (j := 3) o dX8_then_43 rfl ?_
            refine z_icmpge (tgt := 57) o dX8_then_44 (by decide) (fun c23 => ?_) (fun c23 => ?_)
            · refine z_iload_n (j := 4) o dX8_then_57 rfl ?_
              refine z_ifne (tgt := 72) o dX8_then_58 (by decide) (fun c24 => ?_) (fun c24 => ?_)
              · refine z_aload_n (j := 1) o dX8_then_72 rfl ?_
                refine z_iload_n (j := 2) o dX8_then_73 rfl ?_
                refine z_iconst (v := 4) o dX8_then_74 (by decide) ?_
                refine z_callVi (As := [.int (nI fa), .int 4]) (n := 2) (st := []) o dX8_then_75 (c_X8_of hB M1 N fa 4 (by omega)) zc_X8_55 (by decide) (i := 82) (by rw [hB]; exact zsh_lt rfl (by decide)) (zg_o rfl (by decide)) rfl rfl rfl (Nat.le_of_ble_eq_true rfl) (fun r25 g26 p27 => ?_)
                obtain ⟨rfl, rfl⟩ := p27
                refine zo_rw (y := sp_goesN (M 83) na (6 + 13 * fa + 4)) (by rw [hr1, hz]) ?_
                refine z_istore (i := 4) (lv2 := [(4, .int (sp_goesN (M 83) na (6 + 13 * fa + 4))), (0, zref B 82), (1, .int (nI fa)), (2, .int (nI na)), (3, .int w)]) o dX8_then_78 (by decide) rfl ?_
                refine z_aload_n (j := 1) o dX8_then_80 rfl ?_
                refine z_callVv (As := []) (n := 0) (st := []) o dX8_then_81 (c_X8_putsBack hB M1 N) zc_X8_215 (by decide) (i := 82) (by rw [hB]; exact zsh_lt rfl (by decide)) (zg_o rfl (by decide)) rfl rfl rfl (Nat.le_of_ble_eq_true rfl) (fun g29 p30 => ?_)
                cases p30
                refine zo_nm (fun M31 hM31 => ?_)
                refine z_iload (j := 0) o dX8_then_84 rfl ?_
                exact kret _ _ _ _ dX8_then_86 ⟨_, rfl, by unfold sq_then; (try rw [zn_nI (n := fa) (by omega)]); (try rw [zn_nI (n := na) (by omega)]); rw [if_neg c4, if_neg c11, if_neg c18, if_neg c24] <;> (try rfl), by unfold sq_then; (try rw [zn_nI (n := fa) (by omega)]); (try rw [zn_nI (n := na) (by omega)]); rw [if_neg c4, if_neg c11, if_neg c18, if_neg c24] <;> exact (by rw [hM31]; exact zQ.bk hS1)⟩
              · refine z_aload_n (j := 1) o dX8_then_61 rfl ?_
                refine z_iload_n (j := 2) o dX8_then_62 rfl ?_
                refine z_callVl (As := [.int (nI fa)]) (n := 1) (st := []) o dX8_then_63 (c_X8_insideOf hB M1 N fa (by omega) hok1.1) zc_X8_85 (by decide) (i := 82) (by rw [hB]; exact zsh_lt rfl (by decide)) (zg_o rfl (by decide)) rfl rfl rfl (Nat.le_of_ble_eq_true rfl) (fun r32 g33 p34 => ?_)
                obtain ⟨rfl, rfl⟩ := p34
                refine z_callSi (As := [.long (sp_ins (M1 83) fa)]) (n := 1) (st := []) o dX8_then_66 (c_X8_bits hB M1 N (sp_ins (M1 83) fa)) zc_X8_88 (by decide) rfl rfl (Nat.le_of_ble_eq_true rfl) (fun r35 g36 p37 => ?_)
                obtain ⟨rfl, rfl⟩ := p37
                refine zo_rw (y := nI (lpop (sp_ins (sp_goesN (M 83) na) fa))) (by rw [hr1, hz]) ?_
                refine z_goto (tgt := 78) o dX8_then_69 (by decide) ?_
                refine z_istore (i := 4) (lv2 := [(4, .int (nI (lpop (sp_ins (sp_goesN (M 83) na) fa)))), (0, zref B 82), (1, .int (nI fa)), (2, .int (nI na)), (3, .int w)]) o dX8_then_78 (by decide) rfl ?_
                refine z_aload_n (j := 1) o dX8_then_80 rfl ?_
                refine z_callVv (As := []) (n := 0) (st := []) o dX8_then_81 (c_X8_putsBack hB M1 N) zc_X8_215 (by decide) (i := 82) (by rw [hB]; exact zsh_lt rfl (by decide)) (zg_o rfl (by decide)) rfl rfl rfl (Nat.le_of_ble_eq_true rfl) (fun g39 p40 => ?_)
                cases p40
                refine zo_nm (fun M41 hM41 => ?_)
                refine z_iload (j := 0) o dX8_then_84 rfl ?_
                exact kret _ _ _ _ dX8_then_86 ⟨_, rfl, by unfold sq_then; (try rw [zn_nI (n := fa) (by omega)]); (try rw [zn_nI (n := na) (by omega)]); rw [if_neg c4, if_neg c11, if_neg c18, if_pos c24] <;> (try rfl), by unfold sq_then; (try rw [zn_nI (n := fa) (by omega)]); (try rw [zn_nI (n := na) (by omega)]); rw [if_neg c4, if_neg c11, if_neg c18, if_pos c24] <;> exact (by rw [hM41]; exact zQ.bk hS1)⟩
            · exact absurd c23 (nI_nlt (a := kq) (b := na) (by omega) (by omega))
          | succ nq ih =>
            intro kq hkq M1 hr1 hS1
            have hlt : kq < na := by omega
            have hok1 : zOkAll (M1 83) := by rw [hr1]; exact okA_goesN hok _
            refine z_iload (j := 0) o dX8_then_41 rfl ?_
            refine z_iload_n (j := 3) o dX8_then_43 rfl ?_
            refine z_icmpge (tgt := 57) o dX8_then_44 (by decide) (fun c42 => ?_) (fun c42 => ?_)
            · exact absurd (nI_lt (a := kq) (b := na) (by omega) (by omega)) c42
            · refine z_aload_n (j := 1) o dX8_then_47 rfl ?_
              refine z_callVv (As := []) (n := 0) (st := []) o dX8_then_48 (c_X8_goes hB M1 N hok1) zc_X8_199 (by decide) (i := 82) (by rw [hB]; exact zsh_lt rfl (by decide)) (zg_o rfl (by decide)) rfl rfl rfl (Nat.le_of_ble_eq_true rfl) (fun g44 p45 => ?_)
              obtain ⟨M46, rfl, hRM46, hSM46⟩ := p45
              refine z_iinc (j := 0) (v := nI (kq + 1)) (lv2 := [(4, .int (nI (kq + 1))), (0, zref B 82), (1, .int (nI fa)), (2, .int (nI na)), (3, .int w)]) o dX8_then_51 rfl (zn_ofInt _) (by decide) rfl ?_
              refine z_goto (tgt := 41) o dX8_then_54 (by decide) ?_
              refine zo_lv [0, 1, 2, 3, 4] rfl ?_
              exact ih (kq + 1) (by omega) M46 (by rw [hRM46, hr1]; rfl) (hS1.tr hSM46)
        refine zo_lv [0, 1, 2, 3, 4] rfl ?_
        exact LOOP na 0 (by omega) (va_up M 85 (M 83)) (va_up_ne _ _ (by decide)) zSm.rf
      · refine z_aload_n (j := 0) o dX8_then_27 rfl ?_
        refine z_ldc (v := (-1000000001)) o dX8_then_28 zk_X8_100 ?_
        refine z_callVi (As := [.int (-1000000001)]) (n := 1) (st := []) o dX8_then_30 (c_X8_error hB M N 1 (by omega)) zc_X8_101 (by decide) (i := 82) (by rw [hB]; exact zsh_lt rfl (by decide)) (zg_o rfl (by decide)) rfl rfl rfl (Nat.le_of_ble_eq_true rfl) (fun r47 g48 p49 => ?_)
        obtain ⟨rfl, rfl⟩ := p49
        exact kret _ _ _ _ dX8_then_33 ⟨_, rfl, by unfold sq_then; (try rw [zn_nI (n := fa) (by omega)]); (try rw [zn_nI (n := na) (by omega)]); rw [if_neg c4, if_neg c11, if_pos c18] <;> (try rfl), by unfold sq_then; (try rw [zn_nI (n := fa) (by omega)]); (try rw [zn_nI (n := na) (by omega)]); rw [if_neg c4, if_neg c11, if_pos c18] <;> exact zQ.rf⟩

