/-! the class: the reader (3) -/
theorem zb_1 {b : Bool} (h : ¬ zb b = 0) : 1 = zb b := by
  cases b
  · exact absurd rfl h
  · rfl
theorem nm_le {u : Nat} {b : Int32} (h : ¬ sp_nm u b < 0) : zle (sp_nm u b) 2 := by
  have h9 : ∀ x : Int32, x = 0 ∨ x = 1 ∨ x = 2 ∨ x = -1 → ¬ x < 0 → zle x 2 := by
    intro x hx hn
    rcases hx with rfl | rfl | rfl | rfl
    · exact ⟨0, by decide, rfl⟩
    · exact ⟨1, by decide, rfl⟩
    · exact ⟨2, by decide, rfl⟩
    · exact absurd (by decide) hn
  refine h9 _ ?_ h
  unfold sp_nm
  by_cases hu : u = 0
  · rw [if_pos hu]; (repeat' split) <;> decide
  · rw [if_neg hu]; (repeat' split) <;> decide
theorem nm_33 (u : Nat) : sp_nm u 33 < 0 ∧ sp_nm u 40 < 0 := by
  unfold sp_nm
  by_cases hu : u = 0
  · rw [if_pos hu, if_pos hu]; decide
  · rw [if_neg hu, if_neg hu]; decide
theorem sg_ne {x : Int32} (h : x ≠ -1) : sp_sg x = x := if_neg h
theorem ps_opd {ρ : Nat → Int32} {u F op : Nat} {r : zPR} (h : sp_lk ρ r.2.1 = 33 ∨ sp_lk ρ r.2.1 = 40) (h5 : ¬ op = 5) : zPS ρ u (F + 1) 5 op r = sp_opd (sp_lk ρ) (sp_nm u) F op (sp_sg (sp_lk ρ r.2.1)) r := by
  unfold zPS
  rw [sp_ps_q]
  unfold sp_opd
  rcases h with h | h
  · rw [h, if_pos (nm_33 u).1, if_pos rfl, if_neg h5, if_pos (show sp_sg 33 = 33 by decide)]
  · rw [h, if_pos (nm_33 u).2, if_neg (by decide), if_pos rfl, if_neg h5, if_neg (show ¬ sp_sg 40 = 33 by decide)]
theorem ps_o5 {ρ : Nat → Int32} {u F op : Nat} {r : zPR} (h : sp_lk ρ r.2.1 = 33 ∨ sp_lk ρ r.2.1 = 40) (h5 : op = 5) : zPS ρ u (F + 1) 5 op r = (false, r.2.1, r.2.2) := by
  unfold zPS
  rw [sp_ps_q]
  rcases h with h | h
  · rw [h, if_pos (nm_33 u).1, if_pos rfl, if_pos h5]
  · rw [h, if_pos (nm_33 u).2, if_neg (by decide), if_pos rfl, if_pos h5]
set_option maxHeartbeats 4000000 in
set_option maxRecDepth 100000 in
theorem c_X5_readQ {B : zB} (hB : znn B = 95) (F : Nat) (ih : ∀ F2, F2 < F → zTQ B F2 ∧ zTL B F2 0) : zTQ B F := by
  intro M N op u ρ r ho5 hu hok hx hr hs hF
  obtain ⟨F, rfl⟩ : ∃ F0, F = F0 + 1 := ⟨F - 1, by unfold zPm at hF; omega⟩
  obtain ⟨hnt, hnt60⟩ := ok_nt2 hok
  refine zCi_of (by decide +kernel) (Nat.le_of_ble_eq_true rfl) .boolean rfl (fun r _ hp => by obtain ⟨M9, q1, q2, q3, q4⟩ := hp; exact zin_z r (by rw [q4]; exact zb_01 _)) ?_
  intro X o kret
  show zW X B (zg B M N) 0 [(0, zref B 67), (1, .int (nI op))] []
  have hr60 : r.2.1 ≤ 60 := by have := hs.2.1; omega
  refine z_aload_n (j := 0) o dX5_readQ_0 rfl ?_
  refine z_callVi (As := []) (n := 0) (st := []) o dX5_readQ_1 (c_X5_sign hB M N ρ u r.2.1 hok hx hs.1 hr60) zc_X5_49 (by omega) (i := 67) (by rw [hB]; exact zsh_lt rfl (by decide)) (zg_o rfl (by decide)) rfl rfl rfl (Nat.le_of_ble_eq_true rfl) (fun r1 g2 p3 => ?_)
  obtain ⟨rfl, rfl⟩ := p3
  refine z_istore_n (i := 2) (lv2 := [(2, .int (sp_sg (sp_lk ρ r.2.1))), (0, zref B 67), (1, .int (nI op))]) o dX5_readQ_4 rfl (by decide) rfl ?_
  refine z_iload_n (j := 0) o dX5_readQ_5 rfl ?_
  refine z_callSi (As := [.int (sp_sg (sp_lk ρ r.2.1))]) (n := 1) (st := []) o dX5_readQ_6 (c_X5_isDigit hB M N (sp_sg (sp_lk ρ r.2.1))) zc_X5_61 (by omega) rfl rfl (Nat.le_of_ble_eq_true rfl) (fun r4 g5 p6 => ?_)
  obtain ⟨rfl, rfl⟩ := p6
  refine zo_rw (y := zin (sp_lk ρ r.2.1) 48 57) (sg_zin) ?_
  refine z_ifeq (tgt := 18) o dX5_readQ_9 (by decide) (fun c7 => ?_) (fun c7 => ?_)
  · have hd : zin (sp_lk ρ r.2.1) 48 57 = 0 := c7
    refine z_iload_n (j := 0) o dX5_readQ_18 rfl ?_
    refine z_bipush (v := 33) o dX5_readQ_19 (by decide) ?_
    refine z_icmpeq (tgt := 30) o dX5_readQ_21 (by decide) (fun c8 => ?_) (fun c8 => ?_)
    · have h33 : sp_lk ρ r.2.1 = 33 := (sg_eq (by decide) (by decide)).mp c8
      have ho : sp_lk ρ r.2.1 = 33 ∨ sp_lk ρ r.2.1 = 40 := Or.inl h33
      refine z_iload_n (j := 2) o dX5_readQ_30 rfl ?_
      refine z_iconst (v := 5) o dX5_readQ_31 (by decide) ?_
      refine z_icmpge (tgt := 50) o dX5_readQ_32 (by decide) (fun c9 => ?_) (fun c9 => ?_)
      · have h5 : op = 5 := by
          rcases Nat.lt_or_ge op 5 with q | q
          · exact absurd (nI_lt (a := op) (b := 5) q (by decide)) c9
          · omega
        refine z_iconst (v := 0) o dX5_readQ_50 (by decide) ?_
        exact kret _ _ _ _ dX5_readQ_51 ⟨M, rfl, zTCx.rf, by rw [ps_o5 ho h5]; exact hs.bad, by rw [ps_o5 ho h5]; rfl⟩
      · have h5 : op < 5 := (nI_ltI (b := 5) (by omega) (by decide)).mp c9
        have hlk : sp_lk ρ r.2.1 ≠ -1 := by rcases ho with q | q <;> rw [q] <;> decide
        have hfin : zPS ρ u (F + 1) 5 op r = sp_opd (sp_lk ρ) (sp_nm u) F op (sp_sg (sp_lk ρ r.2.1)) r := ps_opd ho (by omega)
        refine z_aload_n (j := 1) o dX5_readQ_35 rfl ?_
        refine z_iload_n (j := 0) o dX5_readQ_36 rfl ?_
        refine z_iload_n (j := 2) o dX5_readQ_37 rfl ?_
        refine z_iconst (v := 1) o dX5_readQ_38 (by decide) ?_
        refine z_iadd o dX5_readQ_39 ?_
        refine zo_rw (y := nI (op + 1)) (zn_add (rfl) (rfl)) ?_
        refine z_callVi (As := [.int (sp_sg (sp_lk ρ r.2.1)), .int (nI (op + 1))]) (n := 2) (st := []) o dX5_readQ_40 (c_X5_readOpened hB M N F op u (sp_sg (sp_lk ρ r.2.1)) ρ r (ih F (by omega)).1 (ih F (by omega)).2 h5 hu hok hx hr hs hlk hF) zc_X5_68 (by omega) (i := 67) (by rw [hB]; exact zsh_lt rfl (by decide)) (zg_o rfl (by decide)) rfl rfl rfl (Nat.le_of_ble_eq_true rfl) (fun r10 g11 p12 => ?_)
        obtain ⟨M13, rfl, hXM13, hPM13, eM13⟩ := p12
        rw [← hfin] at hPM13 eM13
        refine z_ifeq (tgt := 50) o dX5_readQ_43 (by decide) (fun c14 => ?_) (fun c14 => ?_)
        · refine z_iconst (v := 0) o dX5_readQ_50 (by decide) ?_
          exact kret _ _ _ _ dX5_readQ_51 ⟨_, rfl, hXM13, hPM13, by rw [← eM13]; exact c14.symm⟩
        · refine z_iconst (v := 1) o dX5_readQ_46 (by decide) ?_
          refine z_goto (tgt := 51) o dX5_readQ_47 (by decide) ?_
          exact kret _ _ _ _ dX5_readQ_51 ⟨_, rfl, hXM13, hPM13, zb_1 (by rw [← eM13]; exact c14)⟩
    · have h33 : ¬ sp_lk ρ r.2.1 = 33 := fun q => c8 ((sg_eq (by decide) (by decide)).mpr q)
      refine z_iload_n (j := 0) o dX5_readQ_24 rfl ?_
      refine z_bipush (v := 40) o dX5_readQ_25 (by decide) ?_
      refine z_icmpne (tgt := 52) o dX5_readQ_27 (by decide) (fun c15 => ?_) (fun c15 => ?_)
      · have h40 : ¬ sp_lk ρ r.2.1 = 40 := fun q => c15 ((sg_eq (by decide) (by decide)).mpr q)
        obtain ⟨bq, hb, eb⟩ := sg_le (h := r.2.1) hok
        rcases (show u = 0 ∨ u = 1 by omega) with rfl | rfl
        · refine z_aload_n (j := 1) o dX5_readQ_52 rfl ?_
          refine zo_get (i := 67) o hB dX5_readQ_53 zf_X5_21 rfl (by decide) (by show some (Value.ref (zsq B (M 67 5).toNatClampNeg)) = _; rw [hx.2.2.1]) ?_
          refine z_iload_n (j := 0) o dX5_readQ_56 rfl ?_
          refine zo_rw (y := nI bq) eb ?_
          refine z_callTi (As := [.int (nI bq)]) (n := 1) (st := []) o dX5_readQ_57 (c_J0_indexOf_1 hB M N bq (by omega)) zc_X5_72 (by omega) (k := 1) (by decide) rfl rfl rfl (Nat.le_of_ble_eq_true rfl) (fun r16 g17 p18 => ?_)
          obtain ⟨rfl, rfl⟩ := p18
          refine zo_rw (y := sp_nm 0 (sp_lk ρ r.2.1)) (by rw [← eb, sg_nm]) ?_
          refine z_istore_n (i := 3) (lv2 := [(3, .int (sp_nm 0 (sp_lk ρ r.2.1))), (2, .int (sp_sg (sp_lk ρ r.2.1))), (0, zref B 67), (1, .int (nI op))]) o dX5_readQ_60 rfl (by decide) rfl ?_
          refine z_iload_n (j := 0) o dX5_readQ_61 rfl ?_
          refine z_ifge (tgt := 67) o dX5_readQ_62 (by decide) (fun c19 => ?_) (fun c19 => ?_)
          · have n1 : ¬ sp_nm 0 (sp_lk ρ r.2.1) < 0 := c19
            have hlk : sp_lk ρ r.2.1 ≠ -1 := fun q => by rw [q] at n1; exact n1 (sp_nm_m1 0)
            have l0 := (hs.2.2.2 hr).2.1
            have ha := hs.adv hr hlk
            have hfin : zPS ρ 0 (F + 1) 5 op r = (true, r.2.1 + 1, r.2.2 ++ [(2, sp_nm 0 (sp_lk ρ r.2.1))]) := by
              unfold zPS; rw [sp_ps_q, if_neg n1]
            refine z_aload_n (j := 2) o dX5_readQ_67 rfl ?_
            refine z_dup o dX5_readQ_68 rfl ?_
            refine zo_get (i := 67) o hB dX5_readQ_69 zf_X5_35 rfl (by decide) (rfl) ?_
            refine zo_rw (y := nI r.2.1) (hs.1) ?_
            refine z_iconst (v := 1) o dX5_readQ_72 (by decide) ?_
            refine z_iadd o dX5_readQ_73 ?_
            refine zo_rw (y := nI (r.2.1 + 1)) (zn_add (rfl) (rfl)) ?_
            refine zo_put (i := 67) o hB dX5_readQ_74 zp_X5_35 rfl (by decide) (by decide) (Nat.le_of_ble_eq_true rfl) ?_
            refine z_aload_n (j := 2) o dX5_readQ_77 rfl ?_
            refine z_iconst (v := (-1)) o dX5_readQ_78 (by decide) ?_
            refine z_iload_n (j := 0) o dX5_readQ_79 rfl ?_
            refine z_isub o dX5_readQ_80 ?_
            refine z_callVv (As := [.int ((-1) - (sp_nm 0 (sp_lk ρ r.2.1)))]) (n := 1) (st := []) o dX5_readQ_81 (c_X5_add hB (zu M 67 4 (nI (r.2.1 + 1))) N ((-1) - (sp_nm 0 (sp_lk ρ r.2.1))) ha.2.2.1) zc_X5_57 (by omega) (i := 67) (by rw [hB]; exact zsh_lt rfl (by decide)) (zg_o rfl (by decide)) rfl rfl rfl (Nat.le_of_ble_eq_true rfl) (fun g21 p22 => ?_)
            cases p22
            refine z_iconst (v := 1) o dX5_readQ_84 (by decide) ?_
            exact kret _ _ _ _ dX5_readQ_85 ⟨_, rfl, (zTCx.rf.z (Or.inr rfl)).st, by rw [hfin]; exact ha.add hnt60 (fun _ => by show r.2.2.length < r.2.1 + 1; omega) (Or.inr (Or.inl ⟨rfl, nm_le n1, rfl⟩)), by rw [hfin]; rfl⟩
          · have n1 : sp_nm 0 (sp_lk ρ r.2.1) < 0 := c19
            have hfin : zPS ρ 0 (F + 1) 5 op r = (false, r.2.1, r.2.2) := by
              unfold zPS; rw [sp_ps_q, if_pos n1, if_neg h33, if_neg h40, no_not hd]
            refine z_iconst (v := 0) o dX5_readQ_65 (by decide) ?_
            exact kret _ _ _ _ dX5_readQ_66 ⟨M, rfl, zTCx.rf, by rw [hfin]; exact hs.bad, by rw [hfin]; rfl⟩
        · refine z_aload_n (j := 1) o dX5_readQ_52 rfl ?_
          refine zo_get (i := 67) o hB dX5_readQ_53 zf_X5_21 rfl (by decide) (by show some (Value.ref (zsq B (M 67 5).toNatClampNeg)) = _; rw [hx.2.2.1]) ?_
          refine z_iload_n (j := 0) o dX5_readQ_56 rfl ?_
          refine zo_rw (y := nI bq) eb ?_
          refine z_callTi (As := [.int (nI bq)]) (n := 1) (st := []) o dX5_readQ_57 (c_J0_indexOf_2 hB M N bq (by omega)) zc_X5_72 (by omega) (k := 2) (by decide) rfl rfl rfl (Nat.le_of_ble_eq_true rfl) (fun r23 g24 p25 => ?_)
          obtain ⟨rfl, rfl⟩ := p25
          refine zo_rw (y := sp_nm 1 (sp_lk ρ r.2.1)) (by rw [← eb, sg_nm]) ?_
          refine z_istore_n (i := 3) (lv2 := [(3, .int (sp_nm 1 (sp_lk ρ r.2.1))), (2, .int (sp_sg (sp_lk ρ r.2.1))), (0, zref B 67), (1, .int (nI op))]) o dX5_readQ_60 rfl (by decide) rfl ?_
          refine z_iload_n (j := 0) o dX5_readQ_61 rfl ?_
          refine z_ifge (tgt := 67) o dX5_readQ_62 (by decide) (fun c26 => ?_) (fun c26 => ?_)
          · have n1 : ¬ sp_nm 1 (sp_lk ρ r.2.1) < 0 := c26
            have hlk : sp_lk ρ r.2.1 ≠ -1 := fun q => by rw [q] at n1; exact n1 (sp_nm_m1 1)
            have l0 := (hs.2.2.2 hr).2.1
            have ha := hs.adv hr hlk
            have hfin : zPS ρ 1 (F + 1) 5 op r = (true, r.2.1 + 1, r.2.2 ++ [(2, sp_nm 1 (sp_lk ρ r.2.1))]) := by
              unfold zPS; rw [sp_ps_q, if_neg n1]
            refine z_aload_n (j := 2) o dX5_readQ_67 rfl ?_
            refine z_dup o dX5_readQ_68 rfl ?_
            refine zo_get (i := 67) o hB dX5_readQ_69 zf_X5_35 rfl (by decide) (rfl) ?_
            refine zo_rw (y := nI r.2.1) (hs.1) ?_
            refine z_iconst (v := 1) o dX5_readQ_72 (by decide) ?_
            refine z_iadd o dX5_readQ_73 ?_
            refine zo_rw (y := nI (r.2.1 + 1)) (zn_add (rfl) (rfl)) ?_
            refine zo_put (i := 67) o hB dX5_readQ_74 zp_X5_35 rfl (by decide) (by decide) (Nat.le_of_ble_eq_true rfl) ?_
            refine z_aload_n (j := 2) o dX5_readQ_77 rfl ?_
            refine z_iconst (v := (-1)) o dX5_readQ_78 (by decide) ?_
            refine z_iload_n (j := 0) o dX5_readQ_79 rfl ?_
            refine z_isub o dX5_readQ_80 ?_
            refine z_callVv (As := [.int ((-1) - (sp_nm 1 (sp_lk ρ r.2.1)))]) (n := 1) (st := []) o dX5_readQ_81 (c_X5_add hB (zu M 67 4 (nI (r.2.1 + 1))) N ((-1) - (sp_nm 1 (sp_lk ρ r.2.1))) ha.2.2.1) zc_X5_57 (by omega) (i := 67) (by rw [hB]; exact zsh_lt rfl (by decide)) (zg_o rfl (by decide)) rfl rfl rfl (Nat.le_of_ble_eq_true rfl) (fun g28 p29 => ?_)
            cases p29
            refine z_iconst (v := 1) o dX5_readQ_84 (by decide) ?_
            exact kret _ _ _ _ dX5_readQ_85 ⟨_, rfl, (zTCx.rf.z (Or.inr rfl)).st, by rw [hfin]; exact ha.add hnt60 (fun _ => by show r.2.2.length < r.2.1 + 1; omega) (Or.inr (Or.inl ⟨rfl, nm_le n1, rfl⟩)), by rw [hfin]; rfl⟩
          · have n1 : sp_nm 1 (sp_lk ρ r.2.1) < 0 := c26
            have hfin : zPS ρ 1 (F + 1) 5 op r = (false, r.2.1, r.2.2) := by
              unfold zPS; rw [sp_ps_q, if_pos n1, if_neg h33, if_neg h40, no_not hd]
            refine z_iconst (v := 0) o dX5_readQ_65 (by decide) ?_
            exact kret _ _ _ _ dX5_readQ_66 ⟨M, rfl, zTCx.rf, by rw [hfin]; exact hs.bad, by rw [hfin]; rfl⟩
      · have h40 : sp_lk ρ r.2.1 = 40 := (sg_eq (by decide) (by decide)).mp c15
        have ho : sp_lk ρ r.2.1 = 33 ∨ sp_lk ρ r.2.1 = 40 := Or.inr h40
        refine z_iload_n (j := 2) o dX5_readQ_30 rfl ?_
        refine z_iconst (v := 5) o dX5_readQ_31 (by decide) ?_
        refine z_icmpge (tgt := 50) o dX5_readQ_32 (by decide) (fun c30 => ?_) (fun c30 => ?_)
        · have h5 : op = 5 := by
            rcases Nat.lt_or_ge op 5 with q | q
            · exact absurd (nI_lt (a := op) (b := 5) q (by decide)) c30
            · omega
          refine z_iconst (v := 0) o dX5_readQ_50 (by decide) ?_
          exact kret _ _ _ _ dX5_readQ_51 ⟨M, rfl, zTCx.rf, by rw [ps_o5 ho h5]; exact hs.bad, by rw [ps_o5 ho h5]; rfl⟩
        · have h5 : op < 5 := (nI_ltI (b := 5) (by omega) (by decide)).mp c30
          have hlk : sp_lk ρ r.2.1 ≠ -1 := by rcases ho with q | q <;> rw [q] <;> decide
          have hfin : zPS ρ u (F + 1) 5 op r = sp_opd (sp_lk ρ) (sp_nm u) F op (sp_sg (sp_lk ρ r.2.1)) r := ps_opd ho (by omega)
          refine z_aload_n (j := 1) o dX5_readQ_35 rfl ?_
          refine z_iload_n (j := 0) o dX5_readQ_36 rfl ?_
          refine z_iload_n (j := 2) o dX5_readQ_37 rfl ?_
          refine z_iconst (v := 1) o dX5_readQ_38 (by decide) ?_
          refine z_iadd o dX5_readQ_39 ?_
          refine zo_rw (y := nI (op + 1)) (zn_add (rfl) (rfl)) ?_
          refine z_callVi (As := [.int (sp_sg (sp_lk ρ r.2.1)), .int (nI (op + 1))]) (n := 2) (st := []) o dX5_readQ_40 (c_X5_readOpened hB M N F op u (sp_sg (sp_lk ρ r.2.1)) ρ r (ih F (by omega)).1 (ih F (by omega)).2 h5 hu hok hx hr hs hlk hF) zc_X5_68 (by omega) (i := 67) (by rw [hB]; exact zsh_lt rfl (by decide)) (zg_o rfl (by decide)) rfl rfl rfl (Nat.le_of_ble_eq_true rfl) (fun r31 g32 p33 => ?_)
          obtain ⟨M34, rfl, hXM34, hPM34, eM34⟩ := p33
          rw [← hfin] at hPM34 eM34
          refine z_ifeq (tgt := 50) o dX5_readQ_43 (by decide) (fun c35 => ?_) (fun c35 => ?_)
          · refine z_iconst (v := 0) o dX5_readQ_50 (by decide) ?_
            exact kret _ _ _ _ dX5_readQ_51 ⟨_, rfl, hXM34, hPM34, by rw [← eM34]; exact c35.symm⟩
          · refine z_iconst (v := 1) o dX5_readQ_46 (by decide) ?_
            refine z_goto (tgt := 51) o dX5_readQ_47 (by decide) ?_
            exact kret _ _ _ _ dX5_readQ_51 ⟨_, rfl, hXM34, hPM34, zb_1 (by rw [← eM34]; exact c35)⟩
  · have hd : ¬ zin (sp_lk ρ r.2.1) 48 57 = 0 := c7
    obtain ⟨d1, d2, d3, d4⟩ := dig_no (u := u) hd
    have hfin : zPS ρ u (F + 1) 5 op r = sp_no (sp_lk ρ) r := by
      unfold zPS; rw [sp_ps_q, if_pos d1, if_neg d2, if_neg d3]
    refine z_aload_n (j := 1) o dX5_readQ_12 rfl ?_
    refine z_callVv (As := []) (n := 0) (st := []) o dX5_readQ_13 (c_X5_readNumber hB M N ρ u r hok hx hr hs hd) zc_X5_65 (by omega) (i := 67) (by rw [hB]; exact zsh_lt rfl (by decide)) (zg_o rfl (by decide)) rfl rfl rfl (Nat.le_of_ble_eq_true rfl) (fun g37 p38 => ?_)
    obtain ⟨M39, rfl, hXM39, hPM39⟩ := p38
    refine z_iconst (v := 1) o dX5_readQ_16 (by decide) ?_
    exact kret _ _ _ _ dX5_readQ_17 ⟨_, rfl, hXM39, by rw [hfin]; exact hPM39, by rw [hfin, no_yes hd]; rfl⟩

