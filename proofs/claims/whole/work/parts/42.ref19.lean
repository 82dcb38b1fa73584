/-! the reference: the reader (2) -/
set_option maxHeartbeats 4000000 in
set_option maxRecDepth 100000 in
theorem c_X8_number {B : zB} (hB : znn B = 95) (M : zM) (N : zN) (r : zPR) (hok : zOkR (M 83)) (hr : r.1 = true) (hs : zPSt M r) : zCv B (zg B M N) yX8_number cX8_number 3 none 1 [zref B 82] (fun g' => ∃ M' : zM, g' = zg B M' N ∧ zPCx M M' ∧ zPSt M' (sp_no (sp_lk (M 83)) r)) := by
  refine zCv_of (by decide +kernel) (Nat.le_of_ble_eq_true rfl) ?_
  intro X o kret
  show zW X B (zg B M N) 0 [(0, zref B 82)] []
  obtain ⟨hnt, hnt60⟩ := ok_nt2 hok
  refine z_iconst (v := 0) o dX8_number_0 (by decide) ?_
  refine z_istore_n (i := 1) (lv2 := [(1, .int 0), (0, zref B 82)]) o dX8_number_1 rfl (by decide) rfl ?_
  refine z_iconst (v := 0) o dX8_number_2 (by decide) ?_
  refine z_istore_n (i := 2) (lv2 := [(2, .int 0), (1, .int 0), (0, zref B 82)]) o dX8_number_3 rfl (by decide) rfl ?_
  have LOOP : ∀ nq kq : Nat, kq + nq = 4 → r.2.1 + kq ≤ sp_nt (M 83) → ∀ v : Int32, sp_num (sp_lk (M 83)) 4 r.2.1 0 = sp_num (sp_lk (M 83)) nq (r.2.1 + kq) v → zW X B (zg B (zu M 82 13 (nI (r.2.1 + kq))) N) 4 [(2, .int (nI kq)), (1, .int v), (0, zref B 82)] [] := by
    intro nq
    induction nq with
    | zero =>
      intro kq hkq hT v he
      have hz : ¬ kq = 0 := by omega
      have he2 : sp_num (sp_lk (M 83)) 4 r.2.1 0 = (r.2.1 + kq, v) := he
      refine z_iload_n (j := 0) o dX8_number_4 rfl ?_
      refine z_iconst (v := 4) o dX8_number_5 (by decide) ?_
      refine z_icmpge (tgt := 52) o dX8_number_6 (by decide) (fun c1 => ?_) (fun c1 => ?_)
      · refine z_aload_n (j := 2) o dX8_number_52 rfl ?_
        refine z_iload_n (j := 0) o dX8_number_53 rfl ?_
        refine z_ifne (tgt := 61) o dX8_number_54 (by decide) (fun c2 => ?_) (fun c2 => ?_)
        · have hk0 : ¬ kq = 0 := fun q => c2 (by rw [q]; rfl)
          refine z_iconst (v := 0) o dX8_number_61 (by decide) ?_
          refine zo_putz (i := 82) o hB dX8_number_62 zp_X8_146 rfl (by decide) (by decide) (Nat.le_of_ble_eq_true rfl) (by decide) ?_
          refine z_aload_n (j := 2) o dX8_number_65 rfl ?_
          refine z_iconst (v := 1) o dX8_number_66 (by decide) ?_
          refine z_iload_n (j := 1) o dX8_number_67 rfl ?_
          refine z_callVv (As := [.int 1, .int v]) (n := 2) (st := []) o dX8_number_68 (c_X8_step hB (zu (zu M 82 13 (nI (r.2.1 + kq))) 82 15 0) N 1 v (by rw [zu_at, upd_ne (by decide), zu_at, upd_ne (by decide)]; exact hs.2.2.2.1)) zc_X8_150 (by decide) (i := 82) (by rw [hB]; exact zsh_lt rfl (by decide)) (zg_o rfl (by decide)) rfl rfl rfl (Nat.le_of_ble_eq_true rfl) (fun g4 p5 => ?_)
          cases p5
          exact kret _ _ _ dX8_number_71 ⟨_, rfl, ((zPCx.rf.z (k := 13) (by decide)).z (k := 15) (by decide)).st, by have q := no_end (v := v) hs hr hnt60 hT he2; rw [if_neg hk0] at q; exact q⟩
        · have hk0 : kq = 0 := (nI_eq (b := 0) (by omega) (by decide)).mp c2
          refine z_iconst (v := 1) o dX8_number_57 (by decide) ?_
          refine z_goto (tgt := 62) o dX8_number_58 (by decide) ?_
          refine zo_putz (i := 82) o hB dX8_number_62 zp_X8_146 rfl (by decide) (by decide) (Nat.le_of_ble_eq_true rfl) (by decide) ?_
          refine z_aload_n (j := 2) o dX8_number_65 rfl ?_
          refine z_iconst (v := 1) o dX8_number_66 (by decide) ?_
          refine z_iload_n (j := 1) o dX8_number_67 rfl ?_
          refine z_callVv (As := [.int 1, .int v]) (n := 2) (st := []) o dX8_number_68 (c_X8_step hB (zu (zu M 82 13 (nI (r.2.1 + kq))) 82 15 1) N 1 v (by rw [zu_at, upd_ne (by decide), zu_at, upd_ne (by decide)]; exact hs.2.2.2.1)) zc_X8_150 (by decide) (i := 82) (by rw [hB]; exact zsh_lt rfl (by decide)) (zg_o rfl (by decide)) rfl rfl rfl (Nat.le_of_ble_eq_true rfl) (fun g7 p8 => ?_)
          cases p8
          exact kret _ _ _ dX8_number_71 ⟨_, rfl, ((zPCx.rf.z (k := 13) (by decide)).z (k := 15) (by decide)).st, by have q := no_end (v := v) hs hr hnt60 hT he2; rw [if_pos hk0] at q; exact q⟩
      · exact absurd c1 (nI_nlt (a := kq) (b := 4) (by omega) (by omega))
    | succ nq ih =>
      intro kq hkq hT v he
      have hlt : kq < 4 := by omega
      refine z_iload_n (j := 0) o dX8_number_4 rfl ?_
      refine z_iconst (v := 4) o dX8_number_5 (by decide) ?_
      refine z_icmpge (tgt := 52) o dX8_number_6 (by decide) (fun c9 => ?_) (fun c9 => ?_)
      · exact absurd (nI_lt (a := kq) (b := 4) (by omega) (by omega)) c9
      · refine z_aload_n (j := 2) o dX8_number_9 rfl ?_
        refine z_callVi (As := []) (n := 0) (st := []) o dX8_number_10 (c_X8_look hB (zu M 82 13 (nI (r.2.1 + kq))) N (r.2.1 + kq) (by rw [zu_at, upd_self]) (by omega) (by rw [zu_ne (by decide)]; exact hok)) zc_X8_142 (by decide) (i := 82) (by rw [hB]; exact zsh_lt rfl (by decide)) (zg_o rfl (by decide)) rfl rfl rfl (Nat.le_of_ble_eq_true rfl) (fun r10 g11 p12 => ?_)
        obtain ⟨rfl, rfl⟩ := p12
        refine zo_rw (y := sp_lk (M 83) (r.2.1 + kq)) (by rw [zu_ne (by decide)]) ?_
        refine z_bipush (v := 48) o dX8_number_13 (by decide) ?_
        refine z_bipush (v := 57) o dX8_number_15 (by decide) ?_
        refine z_callSi (As := [.int (sp_lk (M 83) (r.2.1 + kq)), .int 48, .int 57]) (n := 3) (st := []) o dX8_number_17 (c_X8_in hB (zu M 82 13 (nI (r.2.1 + kq))) N (sp_lk (M 83) (r.2.1 + kq)) 48 57) zc_X8_51 (by decide) rfl rfl (Nat.le_of_ble_eq_true rfl) (fun r13 g14 p15 => ?_)
        obtain ⟨rfl, rfl⟩ := p15
        refine z_ifeq (tgt := 52) o dX8_number_20 (by decide) (fun c16 => ?_) (fun c16 => ?_)
        · have he2 : sp_num (sp_lk (M 83)) 4 r.2.1 0 = (r.2.1 + kq, v) := by
            rw [he]; show (if zin (sp_lk (M 83) (r.2.1 + kq)) 48 57 = 0 then (r.2.1 + kq, v) else sp_num (sp_lk (M 83)) nq (r.2.1 + kq + 1) (10 * v + sp_lk (M 83) (r.2.1 + kq) - 48)) = _; rw [if_pos c16]
          refine z_aload_n (j := 2) o dX8_number_52 rfl ?_
          refine z_iload_n (j := 0) o dX8_number_53 rfl ?_
          refine z_ifne (tgt := 61) o dX8_number_54 (by decide) (fun c17 => ?_) (fun c17 => ?_)
          · have hk0 : ¬ kq = 0 := fun q => c17 (by rw [q]; rfl)
            refine z_iconst (v := 0) o dX8_number_61 (by decide) ?_
            refine zo_putz (i := 82) o hB dX8_number_62 zp_X8_146 rfl (by decide) (by decide) (Nat.le_of_ble_eq_true rfl) (by decide) ?_
            refine z_aload_n (j := 2) o dX8_number_65 rfl ?_
            refine z_iconst (v := 1) o dX8_number_66 (by decide) ?_
            refine z_iload_n (j := 1) o dX8_number_67 rfl ?_
            refine z_callVv (As := [.int 1, .int v]) (n := 2) (st := []) o dX8_number_68 (c_X8_step hB (zu (zu M 82 13 (nI (r.2.1 + kq))) 82 15 0) N 1 v (by rw [zu_at, upd_ne (by decide), zu_at, upd_ne (by decide)]; exact hs.2.2.2.1)) zc_X8_150 (by decide) (i := 82) (by rw [hB]; exact zsh_lt rfl (by decide)) (zg_o rfl (by decide)) rfl rfl rfl (Nat.le_of_ble_eq_true rfl) (fun g19 p20 => ?_)
            cases p20
            exact kret _ _ _ dX8_number_71 ⟨_, rfl, ((zPCx.rf.z (k := 13) (by decide)).z (k := 15) (by decide)).st, by have q := no_end (v := v) hs hr hnt60 hT he2; rw [if_neg hk0] at q; exact q⟩
          · have hk0 : kq = 0 := (nI_eq (b := 0) (by omega) (by decide)).mp c17
            refine z_iconst (v := 1) o dX8_number_57 (by decide) ?_
            refine z_goto (tgt := 62) o dX8_number_58 (by decide) ?_
            refine zo_putz (i := 82) o hB dX8_number_62 zp_X8_146 rfl (by decide) (by decide) (Nat.le_of_ble_eq_true rfl) (by decide) ?_
            refine z_aload_n (j := 2) o dX8_number_65 rfl ?_
            refine z_iconst (v := 1) o dX8_number_66 (by decide) ?_
            refine z_iload_n (j := 1) o dX8_number_67 rfl ?_
            refine z_callVv (As := [.int 1, .int v]) (n := 2) (st := []) o dX8_number_68 (c_X8_step hB (zu (zu M 82 13 (nI (r.2.1 + kq))) 82 15 1) N 1 v (by rw [zu_at, upd_ne (by decide), zu_at, upd_ne (by decide)]; exact hs.2.2.2.1)) zc_X8_150 (by decide) (i := 82) (by rw [hB]; exact zsh_lt rfl (by decide)) (zg_o rfl (by decide)) rfl rfl rfl (Nat.le_of_ble_eq_true rfl) (fun g22 p23 => ?_)
            cases p23
            exact kret _ _ _ dX8_number_71 ⟨_, rfl, ((zPCx.rf.z (k := 13) (by decide)).z (k := 15) (by decide)).st, by have q := no_end (v := v) hs hr hnt60 hT he2; rw [if_pos hk0] at q; exact q⟩
        · have he2 : sp_num (sp_lk (M 83)) 4 r.2.1 0 = sp_num (sp_lk (M 83)) nq (r.2.1 + kq + 1) (10 * v + sp_lk (M 83) (r.2.1 + kq) - 48) := by
            rw [he]; show (if zin (sp_lk (M 83) (r.2.1 + kq)) 48 57 = 0 then (r.2.1 + kq, v) else sp_num (sp_lk (M 83)) nq (r.2.1 + kq + 1) (10 * v + sp_lk (M 83) (r.2.1 + kq) - 48)) = _; rw [if_neg c16]
          have hT2 : r.2.1 + kq + 1 ≤ sp_nt (M 83) := sp_lk_lt (fun q => by rw [q] at c16; exact absurd (by decide) c16)
          refine z_bipush (v := 10) o dX8_number_23 (by decide) ?_
          refine z_iload_n (j := 1) o dX8_number_25 rfl ?_
          refine z_imul o dX8_number_26 ?_
          refine z_aload_n (j := 2) o dX8_number_27 rfl ?_
          refine z_callVi (As := []) (n := 0) (st := [.int (10 * v)]) o dX8_number_28 (c_X8_look hB (zu M 82 13 (nI (r.2.1 + kq))) N (r.2.1 + kq) (by rw [zu_at, upd_self]) (by omega) (by rw [zu_ne (by decide)]; exact hok)) zc_X8_142 (by decide) (i := 82) (by rw [hB]; exact zsh_lt rfl (by decide)) (zg_o rfl (by decide)) rfl rfl rfl (Nat.le_of_ble_eq_true rfl) (fun r24 g25 p26 => ?_)
          obtain ⟨rfl, rfl⟩ := p26
          refine zo_rw (y := sp_lk (M 83) (r.2.1 + kq)) (by rw [zu_ne (by decide)]) ?_
          refine z_iadd o dX8_number_31 ?_
          refine z_bipush (v := 48) o dX8_number_32 (by decide) ?_
          refine z_isub o dX8_number_34 ?_
          refine z_istore_n (i := 1) (lv2 := [(1, .int (((10 * v) + (sp_lk (M 83) (r.2.1 + kq))) - 48)), (2, .int (nI kq)), (0, zref B 82)]) o dX8_number_35 rfl (by decide) rfl ?_
          refine z_aload_n (j := 2) o dX8_number_36 rfl ?_
          refine z_dup o dX8_number_37 rfl ?_
          refine zo_get (i := 82) o hB dX8_number_38 zf_X8_132 rfl (by decide) rfl ?_
          refine zo_rw (y := nI (r.2.1 + kq)) (by rw [zu_at, upd_self]) ?_
          refine z_iconst (v := 1) o dX8_number_41 (by decide) ?_
          refine z_iadd o dX8_number_42 ?_
          refine zo_rw (y := nI (r.2.1 + kq + 1)) (zn_add (rfl) (rfl)) ?_
          refine zo_put (i := 82) o hB dX8_number_43 zp_X8_132 rfl (by decide) (by decide) (Nat.le_of_ble_eq_true rfl) ?_
          rw [zu_zu]
          refine z_iinc (j := 1) (v := nI (kq + 1)) (lv2 := [(2, .int (nI (kq + 1))), (1, .int (((10 * v) + (sp_lk (M 83) (r.2.1 + kq))) - 48)), (0, zref B 82)]) o dX8_number_46 rfl (zn_ofInt _) (by decide) rfl ?_
          refine z_goto (tgt := 4) o dX8_number_49 (by decide) ?_
          refine zo_lv [0, 1, 2] rfl ?_
          exact ih (kq + 1) (by omega) hT2 _ he2
  refine zo_lv [0, 1, 2] rfl ?_
  have h0 := LOOP 4 0 rfl hs.2.1 0 rfl
  rw [show zu M 82 13 (nI (r.2.1 + 0)) = M from by
    unfold zu
    rw [show upd (M 82) 13 (nI (r.2.1 + 0)) = M 82 from funext fun j => by
      by_cases q : j = 13
      · subst q; rw [upd_self, hs.1]; rfl
      · rw [upd_ne q], va_up_id]] at h0
  exact h0

