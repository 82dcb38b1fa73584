/-! the class: the reader (2) -/
set_option maxHeartbeats 4000000 in
set_option maxRecDepth 100000 in
theorem c_X5_readNumber {B : zB} (hB : znn B = 95) (M : zM) (N : zN) (ρ : Nat → Int32) (u : Nat) (r : zPR) (hok : zOkR ρ) (hx : zTx ρ u M) (hr : r.1 = true) (hs : zTS ρ M r) (hd : ¬ zin (sp_lk ρ r.2.1) 48 57 = 0) : zCv B (zg B M N) yX5_readNumber cX5_readNumber 3 none 1 [zref B 67] (fun g' => ∃ M' : zM, g' = zg B M' N ∧ zTCx M M' ∧ zTS ρ M' (sp_no (sp_lk ρ) r)) := by
  refine zCv_of (by decide +kernel) (Nat.le_of_ble_eq_true rfl) ?_
  intro X o kret
  show zW X B (zg B M N) 0 [(0, zref B 67)] []
  obtain ⟨hnt, hnt60⟩ := ok_nt2 hok
  have l0 := (hs.2.2.2 hr).2.1
  refine z_iconst (v := 0) o dX5_readNumber_0 (by decide) ?_
  refine z_istore_n (i := 1) (lv2 := [(1, .int 0), (0, zref B 67)]) o dX5_readNumber_1 rfl (by decide) rfl ?_
  refine z_iconst (v := 0) o dX5_readNumber_2 (by decide) ?_
  refine z_istore_n (i := 2) (lv2 := [(2, .int 0), (1, .int 0), (0, zref B 67)]) o dX5_readNumber_3 rfl (by decide) rfl ?_
  have LOOP : ∀ nq kq : Nat, kq + nq = 4 → ∀ (M1 : zM) (hq : Nat) (vq : Int32), zTCx M M1 → zTS ρ M1 (true, hq, r.2.2) → sp_num (sp_lk ρ) 4 r.2.1 0 = sp_num (sp_lk ρ) nq hq vq → zW X B (zg B M1 N) 4 [(2, .int (nI kq)), (1, .int vq), (0, zref B 67)] [] := by
    intro nq
    induction nq with
    | zero =>
      intro kq hkq M1 hq vq hX hS hF
      obtain rfl : kq = 4 := by omega
      have hF : sp_num (sp_lk ρ) 4 r.2.1 0 = (hq, vq) := hF
      have hgt := num_gt hd
      rw [hF] at hgt
      have hgt : r.2.1 + 1 ≤ hq := hgt
      have hx1 := hx.cx hX
      have hq60 : hq ≤ 60 := by have := hS.2.1; have : hq ≤ sp_nt ρ := this; omega
      refine z_iload_n (j := 0) o dX5_readNumber_4 rfl ?_
      refine z_iconst (v := 4) o dX5_readNumber_5 (by decide) ?_
      refine z_icmpge (tgt := 48) o dX5_readNumber_6 (by decide) (fun c1 => ?_) (fun c1 => ?_)
      · refine z_aload_n (j := 2) o dX5_readNumber_48 rfl ?_
        refine z_iload_n (j := 1) o dX5_readNumber_49 rfl ?_
        refine z_callVv (As := [.int vq]) (n := 1) (st := []) o dX5_readNumber_50 (c_X5_add hB M1 N vq hS.2.2.1) zc_X5_57 (by decide) (i := 67) (by rw [hB]; exact zsh_lt rfl (by decide)) (zg_o rfl (by decide)) rfl rfl rfl (Nat.le_of_ble_eq_true rfl) (fun g3 p4 => ?_)
        cases p4
        exact kret _ _ _ dX5_readNumber_53 ⟨_, rfl, hX.st, by
          rw [no_yes hd, hF]
          exact hS.add hnt60 (fun _ => by show r.2.2.length < hq; omega) (Or.inl ⟨rfl, by rw [show vq = (sp_num (sp_lk ρ) 4 r.2.1 0).2 from by rw [hF]]; exact num_9, rfl⟩)⟩
      · exact absurd c1 (nI_nlt (a := 4) (b := 4) (by omega) (by omega))
    | succ nq ih =>
      intro kq hkq M1 hq vq hX hS hF
      have hlt : kq < 4 := by omega
      have hx1 := hx.cx hX
      have hq60 : hq ≤ 60 := by have := hS.2.1; have : hq ≤ sp_nt ρ := this; omega
      refine z_iload_n (j := 0) o dX5_readNumber_4 rfl ?_
      refine z_iconst (v := 4) o dX5_readNumber_5 (by decide) ?_
      refine z_icmpge (tgt := 48) o dX5_readNumber_6 (by decide) (fun c5 => ?_) (fun c5 => ?_)
      · exact absurd (nI_lt (a := kq) (b := 4) (by omega) (by omega)) c5
      · refine z_aload_n (j := 2) o dX5_readNumber_9 rfl ?_
        refine z_callVi (As := []) (n := 0) (st := []) o dX5_readNumber_10 (c_X5_sign hB M1 N ρ u hq hok hx1 hS.1 hq60) zc_X5_49 (by decide) (i := 67) (by rw [hB]; exact zsh_lt rfl (by decide)) (zg_o rfl (by decide)) rfl rfl rfl (Nat.le_of_ble_eq_true rfl) (fun r6 g7 p8 => ?_)
        obtain ⟨rfl, rfl⟩ := p8
        refine z_callSi (As := [.int (sp_sg (sp_lk ρ hq))]) (n := 1) (st := []) o dX5_readNumber_13 (c_X5_isDigit hB M1 N (sp_sg (sp_lk ρ hq))) zc_X5_61 (by decide) rfl rfl (Nat.le_of_ble_eq_true rfl) (fun r9 g10 p11 => ?_)
        obtain ⟨rfl, rfl⟩ := p11
        refine zo_rw (y := zin (sp_lk ρ hq) 48 57) (sg_zin) ?_
        refine z_ifeq (tgt := 48) o dX5_readNumber_16 (by decide) (fun c12 => ?_) (fun c12 => ?_)
        · have hF : sp_num (sp_lk ρ) 4 r.2.1 0 = (hq, vq) := by rw [hF, sp_num, if_pos c12]
          have hgt := num_gt hd
          rw [hF] at hgt
          have hgt : r.2.1 + 1 ≤ hq := hgt
          refine z_aload_n (j := 2) o dX5_readNumber_48 rfl ?_
          refine z_iload_n (j := 1) o dX5_readNumber_49 rfl ?_
          refine z_callVv (As := [.int vq]) (n := 1) (st := []) o dX5_readNumber_50 (c_X5_add hB M1 N vq hS.2.2.1) zc_X5_57 (by decide) (i := 67) (by rw [hB]; exact zsh_lt rfl (by decide)) (zg_o rfl (by decide)) rfl rfl rfl (Nat.le_of_ble_eq_true rfl) (fun g14 p15 => ?_)
          cases p15
          exact kret _ _ _ dX5_readNumber_53 ⟨_, rfl, hX.st, by
            rw [no_yes hd, hF]
            exact hS.add hnt60 (fun _ => by show r.2.2.length < hq; omega) (Or.inl ⟨rfl, by rw [show vq = (sp_num (sp_lk ρ) 4 r.2.1 0).2 from by rw [hF]]; exact num_9, rfl⟩)⟩
        · have hne := (dig_no (u := 0) c12).2.2.2
          have hF2 : sp_num (sp_lk ρ) 4 r.2.1 0 = sp_num (sp_lk ρ) nq (hq + 1) (10 * vq + sp_lk ρ hq - 48) := by rw [hF, sp_num, if_neg c12]
          refine z_iload_n (j := 1) o dX5_readNumber_19 rfl ?_
          refine z_bipush (v := 10) o dX5_readNumber_20 (by decide) ?_
          refine z_imul o dX5_readNumber_22 ?_
          refine z_aload_n (j := 2) o dX5_readNumber_23 rfl ?_
          refine z_callVi (As := []) (n := 0) (st := [.int (vq * 10)]) o dX5_readNumber_24 (c_X5_sign hB M1 N ρ u hq hok hx1 hS.1 hq60) zc_X5_49 (by decide) (i := 67) (by rw [hB]; exact zsh_lt rfl (by decide)) (zg_o rfl (by decide)) rfl rfl rfl (Nat.le_of_ble_eq_true rfl) (fun r16 g17 p18 => ?_)
          obtain ⟨rfl, rfl⟩ := p18
          refine z_bipush (v := 48) o dX5_readNumber_27 (by decide) ?_
          refine z_isub o dX5_readNumber_29 ?_
          refine z_iadd o dX5_readNumber_30 ?_
          refine zo_rw (y := 10 * vq + sp_lk ρ hq - 48) (num_v hne) ?_
          refine z_istore_n (i := 1) (lv2 := [(1, .int (10 * vq + sp_lk ρ hq - 48)), (2, .int (nI kq)), (0, zref B 67)]) o dX5_readNumber_31 rfl (by decide) rfl ?_
          refine z_aload_n (j := 2) o dX5_readNumber_32 rfl ?_
          refine z_dup o dX5_readNumber_33 rfl ?_
          refine zo_get (i := 67) o hB dX5_readNumber_34 zf_X5_35 rfl (by decide) (rfl) ?_
          refine zo_rw (y := nI hq) (hS.1) ?_
          refine z_iconst (v := 1) o dX5_readNumber_37 (by decide) ?_
          refine z_iadd o dX5_readNumber_38 ?_
          refine zo_rw (y := nI (hq + 1)) (zn_add (rfl) (rfl)) ?_
          refine zo_put (i := 67) o hB dX5_readNumber_39 zp_X5_35 rfl (by decide) (by decide) (Nat.le_of_ble_eq_true rfl) ?_
          refine z_iinc (j := 1) (v := nI (kq + 1)) (lv2 := [(2, .int (nI (kq + 1))), (1, .int (10 * vq + sp_lk ρ hq - 48)), (0, zref B 67)]) o dX5_readNumber_42 rfl (zn_ofInt _) (by decide) rfl ?_
          refine z_goto (tgt := 4) o dX5_readNumber_45 (by decide) ?_
          refine zo_lv [0, 1, 2] rfl ?_
          exact ih (kq + 1) (by omega) _ (hq + 1) _ (hX.z (Or.inr rfl)) (hS.adv rfl hne) hF2
  refine zo_lv [0, 1, 2] rfl ?_
  exact LOOP 4 0 (by omega) M r.2.1 0 zTCx.rf (by rw [← hr]; exact hs) rfl

set_option maxHeartbeats 4000000 in
set_option maxRecDepth 100000 in
theorem c_X5_readOpened {B : zB} (hB : znn B = 95) (M : zM) (N : zN) (F op u : Nat) (sv : Int32) (ρ : Nat → Int32) (r : zPR) (ihQ : zTQ B F) (ihL : zTL B F 0) (ho5 : op < 5) (hu : u < 2) (hok : zOkR ρ) (hx : zTx ρ u M) (hr : r.1 = true) (hs : zTS ρ M r) (hlk : sp_lk ρ r.2.1 ≠ -1) (hF : zPm 5 r.2.1 ≤ F + 1) : zCi B (zg B M N) yX5_readOpened cX5_readOpened 4 (some .boolean) (8 * (5 - op) + 3) [zref B 67, .int sv, .int (nI (op + 1))] (fun x g' => ∃ M' : zM, g' = zg B M' N ∧ zTCx M M' ∧ zTS ρ M' (sp_opd (sp_lk ρ) (sp_nm u) F op sv r) ∧ x = zb (sp_opd (sp_lk ρ) (sp_nm u) F op sv r).1) := by
  refine zCi_of (by decide +kernel) (Nat.le_of_ble_eq_true rfl) .boolean rfl (fun r _ hp => by obtain ⟨M9, q1, q2, q3, q4⟩ := hp; exact zin_z r (by rw [q4]; exact zb_01 _)) ?_
  intro X o kret
  show zW X B (zg B M N) 0 [(0, zref B 67), (1, .int sv), (2, .int (nI (op + 1)))] []
  obtain ⟨hnt, hnt60⟩ := ok_nt2 hok
  have hlt := sp_lk_lt hlk
  have ha := hs.adv hr hlk
  have hX0 : zTCx M (zu M 67 4 (nI (r.2.1 + 1))) := zTCx.rf.z (Or.inr rfl)
  have hx2 := hx.cx hX0
  refine z_aload_n (j := 0) o dX5_readOpened_0 rfl ?_
  refine z_dup o dX5_readOpened_1 rfl ?_
  refine zo_get (i := 67) o hB dX5_readOpened_2 zf_X5_35 rfl (by decide) (rfl) ?_
  refine zo_rw (y := nI r.2.1) (hs.1) ?_
  refine z_iconst (v := 1) o dX5_readOpened_5 (by decide) ?_
  refine z_iadd o dX5_readOpened_6 ?_
  refine zo_rw (y := nI (r.2.1 + 1)) (zn_add (rfl) (rfl)) ?_
  refine zo_put (i := 67) o hB dX5_readOpened_7 zp_X5_35 rfl (by decide) (by decide) (Nat.le_of_ble_eq_true rfl) ?_
  refine z_iload_n (j := 1) o dX5_readOpened_10 rfl ?_
  refine z_bipush (v := 33) o dX5_readOpened_11 (by decide) ?_
  refine z_icmpne (tgt := 30) o dX5_readOpened_13 (by decide) (fun c1 => ?_) (fun c1 => ?_)
  · have h33 : ¬ sv = 33 := c1
    refine z_aload_n (j := 0) o dX5_readOpened_30 rfl ?_
    refine z_iconst (v := 0) o dX5_readOpened_31 (by decide) ?_
    refine z_iload_n (j := 2) o dX5_readOpened_32 rfl ?_
    refine z_callVi (As := [.int 0, .int (nI (op + 1))]) (n := 2) (st := []) o dX5_readOpened_33 (ihL (zu M 67 4 (nI (r.2.1 + 1))) N (op + 1) u ρ (true, r.2.1 + 1, r.2.2) (by omega) hu hok hx2 rfl ha (by unfold zPm at hF ⊢; show 14 * (61 - (r.2.1 + 1)) + 2 * (6 - 0) ≤ F; omega)) zc_X5_41 (by omega) (i := 67) (by rw [hB]; exact zsh_lt rfl (by decide)) (zg_o rfl (by decide)) rfl rfl rfl (Nat.le_of_ble_eq_true rfl) (fun r2 g3 p4 => ?_)
    obtain ⟨M5, rfl, hXM5, hPM5, eM5⟩ := p4
    have hge : r.2.1 + 1 ≤ (zPS ρ u F 0 (op + 1) (true, r.2.1 + 1, r.2.2)).2.1 := (sp_ps_inv (nm := sp_nm u) (fun h q => sp_lk_T h q) (sp_nm_m1 u) F 0 (op + 1) (true, r.2.1 + 1, r.2.2) hlt).1
    have hopd : sp_opd (sp_lk ρ) (sp_nm u) F op sv r = sp_cl (sp_lk ρ) (zPS ρ u F 0 (op + 1) (true, r.2.1 + 1, r.2.2)) := if_neg h33
    generalize zPS ρ u F 0 (op + 1) (true, r.2.1 + 1, r.2.2) = q9 at hPM5 eM5 hge hopd
    have hq60 : q9.2.1 ≤ 60 := by have := hPM5.2.1; omega
    have hx3 := hx2.cx hXM5
    cases hq : q9.1 with
    | false =>
      refine zo_rw (y := 0) (by rw [eM5, hq]; rfl) ?_
      refine z_ifeq (tgt := 48) o dX5_readOpened_36 (by decide) (fun c6 => ?_) (fun c6 => ?_)
      · refine z_iconst (v := 0) o dX5_readOpened_48 (by decide) ?_
        exact kret _ _ _ _ dX5_readOpened_49 ⟨_, rfl, hX0.tr hXM5, by rw [hopd, show sp_cl (sp_lk ρ) q9 = (false, q9.2.1, q9.2.2) from by unfold sp_cl; rw [hq]; rfl]; exact hPM5.bad, by rw [hopd, show sp_cl (sp_lk ρ) q9 = (false, q9.2.1, q9.2.2) from by unfold sp_cl; rw [hq]; rfl]; rfl⟩
      · exact absurd c6 (by decide)
    | true =>
      refine zo_rw (y := 1) (by rw [eM5, hq]; rfl) ?_
      refine z_ifeq (tgt := 48) o dX5_readOpened_36 (by decide) (fun c7 => ?_) (fun c7 => ?_)
      · exact absurd c7 (by decide)
      · refine z_aload_n (j := 0) o dX5_readOpened_39 rfl ?_
        refine z_callVi (As := []) (n := 0) (st := []) o dX5_readOpened_40 (c_X5_sign hB M5 N ρ u q9.2.1 hok hx3 hPM5.1 hq60) zc_X5_49 (by omega) (i := 67) (by rw [hB]; exact zsh_lt rfl (by decide)) (zg_o rfl (by decide)) rfl rfl rfl (Nat.le_of_ble_eq_true rfl) (fun r8 g9 p10 => ?_)
        obtain ⟨rfl, rfl⟩ := p10
        refine z_bipush (v := 41) o dX5_readOpened_43 (by decide) ?_
        refine z_icmpeq (tgt := 50) o dX5_readOpened_45 (by decide) (fun c11 => ?_) (fun c11 => ?_)
        · have h41 : sp_lk ρ q9.2.1 = 41 := (sg_eq (by decide) (by decide)).mp c11
          have hcl : sp_cl (sp_lk ρ) q9 = (true, q9.2.1 + 1, q9.2.2) := by unfold sp_cl; rw [hq, h41]; rfl
          refine z_aload_n (j := 0) o dX5_readOpened_50 rfl ?_
          refine z_dup o dX5_readOpened_51 rfl ?_
          refine zo_get (i := 67) o hB dX5_readOpened_52 zf_X5_35 rfl (by decide) (rfl) ?_
          refine zo_rw (y := nI q9.2.1) (hPM5.1) ?_
          refine z_iconst (v := 1) o dX5_readOpened_55 (by decide) ?_
          refine z_iadd o dX5_readOpened_56 ?_
          refine zo_rw (y := nI (q9.2.1 + 1)) (zn_add (rfl) (rfl)) ?_
          refine zo_put (i := 67) o hB dX5_readOpened_57 zp_X5_35 rfl (by decide) (by decide) (Nat.le_of_ble_eq_true rfl) ?_
          refine z_iconst (v := 1) o dX5_readOpened_60 (by decide) ?_
          exact kret _ _ _ _ dX5_readOpened_61 ⟨_, rfl, (hX0.tr hXM5).z (Or.inr rfl), by rw [hopd, hcl]; exact hPM5.adv hq (by rw [h41]; decide), by rw [hopd, hcl]; rfl⟩
        · have h41 : ¬ sp_lk ρ q9.2.1 = 41 := fun q => c11 ((sg_eq (by decide) (by decide)).mpr q)
          refine z_iconst (v := 0) o dX5_readOpened_48 (by decide) ?_
          exact kret _ _ _ _ dX5_readOpened_49 ⟨_, rfl, hX0.tr hXM5, by rw [hopd, show sp_cl (sp_lk ρ) q9 = (false, q9.2.1, q9.2.2) from by unfold sp_cl; rw [hq, decide_eq_false h41]; rfl]; exact hPM5.bad, by rw [hopd, show sp_cl (sp_lk ρ) q9 = (false, q9.2.1, q9.2.2) from by unfold sp_cl; rw [hq, decide_eq_false h41]; rfl]; rfl⟩
  · have h33 : sv = 33 := c1
    refine z_aload_n (j := 0) o dX5_readOpened_16 rfl ?_
    refine z_iload_n (j := 2) o dX5_readOpened_17 rfl ?_
    refine z_callVi (As := [.int (nI (op + 1))]) (n := 1) (st := []) o dX5_readOpened_18 (ihQ (zu M 67 4 (nI (r.2.1 + 1))) N (op + 1) u ρ (true, r.2.1 + 1, r.2.2) (by omega) hu hok hx2 rfl ha (by unfold zPm at hF ⊢; show 14 * (61 - (r.2.1 + 1)) + 2 * (6 - 5) ≤ F; omega)) zc_X5_45 (by omega) (i := 67) (by rw [hB]; exact zsh_lt rfl (by decide)) (zg_o rfl (by decide)) rfl rfl rfl (Nat.le_of_ble_eq_true rfl) (fun r12 g13 p14 => ?_)
    obtain ⟨M15, rfl, hXM15, hPM15, eM15⟩ := p14
    obtain ⟨hst, hge⟩ := opd_st (c := -33) hs hr hlk hnt60 (Or.inr (Or.inr (Or.inl ⟨rfl, rfl⟩))) hPM15
    refine z_istore_n (i := 3) (lv2 := [(3, .int r12), (0, zref B 67), (1, .int sv), (2, .int (nI (op + 1)))]) o dX5_readOpened_21 rfl (by decide) rfl ?_
    refine z_aload_n (j := 1) o dX5_readOpened_22 rfl ?_
    refine z_bipush (v := (-33)) o dX5_readOpened_23 (by decide) ?_
    refine z_callVv (As := [.int (-33)]) (n := 1) (st := []) o dX5_readOpened_25 (c_X5_add hB M15 N (-33) hPM15.2.2.1) zc_X5_57 (by omega) (i := 67) (by rw [hB]; exact zsh_lt rfl (by decide)) (zg_o rfl (by decide)) rfl rfl rfl (Nat.le_of_ble_eq_true rfl) (fun g17 p18 => ?_)
    cases p18
    refine z_iload_n (j := 0) o dX5_readOpened_28 rfl ?_
    exact kret _ _ _ _ dX5_readOpened_29 ⟨_, rfl, (hX0.tr hXM15).st, by unfold sp_opd; rw [if_pos h33]; exact hst, by unfold sp_opd; rw [if_pos h33]; exact eM15⟩

