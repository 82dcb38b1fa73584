/-! the reference: salts -/
theorem had_t {b : Bool} (h : ¬ (if b then (1 : Int32) else 0) = 0) : b = true := by cases b with
  | true => rfl
  | false => exact absurd rfl h
theorem had_f {b : Bool} (h : (if b then (1 : Int32) else 0) = 0) : b = false := by cases b with
  | true => exact absurd h (by decide)
  | false => rfl
def sq_salts (M : zM) (f : Int32) (c : Int32) (n : Int32) (w : Int32) : Int32 × zM :=
  if zin f 0 (M 83 2 - 1) = 0 then (zE 1, zEr M 1) else if zin c 0 63 = 0 then (zE 1, zEr M 1) else if zin n 0 6 = 0 then (zE 1, zEr M 1) else if zin w (-1) 1 = 0 then (zE 1, zEr M 1) else
  if sp_hadB (M 83) (zn f) (zn c) (zn n) (-1) (-1) then (if w < 0 then (0, M) else (-1, M)) else
  if sp_sa (M 83) (zn f) (zn c) (zn n) < 64 then (if w < 0 then (1, M) else if w = 0 then (nI (sp_sa (M 83) (zn f) (zn c) (zn n)), M) else (-1, M)) else
  if sp_sab (M 83) (zn f) (zn c) (zn n) < 64 then (if w < 0 then (2, M) else if w = 0 then (nI (sp_sab (M 83) (zn f) (zn c) (zn n)), M) else (nI (sp_sb (M 83) (zn f) (zn c) (zn n) (sp_sab (M 83) (zn f) (zn c) (zn n))), M)) else (zE 2, zEr M 2)
set_option maxHeartbeats 4000000 in
set_option maxRecDepth 100000 in
theorem c_X8_salts {B : zB} (hB : znn B = 95) (M : zM) (N : zN) (f : Int32) (c : Int32) (n : Int32) (w : Int32) (hok : zOkAll (M 83)) : zCi B (zg B M N) yX8_salts cX8_salts 7 (some .int) 5 [zref B 82, .int f, .int c, .int n, .int w] (fun r g' => ∃ M' : zM, g' = zg B M' N ∧ r = (sq_salts M f c n w).1 ∧ zQ (sq_salts M f c n w).2 M') := by
  refine zCi_of (by decide +kernel) (Nat.le_of_ble_eq_true rfl) .int rfl (fun _ _ _ => rfl) ?_
  intro X o kret
  show zW X B (zg B M N) 0 [(0, zref B 82), (1, .int f), (2, .int c), (3, .int n), (4, .int w)] []
  obtain ⟨hnf, hnf4⟩ := ok_nf2 hok.1
  obtain ⟨hnc, hnc6⟩ := ok_nc2 hok.1
  refine z_aload_n (j := 0) o dX8_salts_0 rfl ?_
  refine z_iload_n (j := 1) o dX8_salts_1 rfl ?_
  refine z_callVi (As := [.int f]) (n := 1) (st := []) o dX8_salts_2 (c_X8_isFence hB M N f) zc_X8_106 (by decide) (i := 82) (by rw [hB]; exact zsh_lt rfl (by decide)) (zg_o rfl (by decide)) rfl rfl rfl (Nat.le_of_ble_eq_true rfl) (fun r1 g2 p3 => ?_)
  obtain ⟨rfl, rfl⟩ := p3
  refine z_ifeq (tgt := 35) o dX8_salts_5 (by decide) (fun c4 => ?_) (fun c4 => ?_)
  · refine z_aload_n (j := 0) o dX8_salts_35 rfl ?_
    refine z_ldc (v := (-1000000001)) o dX8_salts_36 zk_X8_100 ?_
    refine z_callVi (As := [.int (-1000000001)]) (n := 1) (st := []) o dX8_salts_38 (c_X8_error hB M N 1 (by omega)) zc_X8_101 (by decide) (i := 82) (by rw [hB]; exact zsh_lt rfl (by decide)) (zg_o rfl (by decide)) rfl rfl rfl (Nat.le_of_ble_eq_true rfl) (fun r5 g6 p7 => ?_)
    obtain ⟨rfl, rfl⟩ := p7
    exact kret _ _ _ _ dX8_salts_41 ⟨_, rfl, by unfold sq_salts;  rw [if_pos c4] <;> (try rfl), by unfold sq_salts;  rw [if_pos c4] <;> exact zQ.rf⟩
  · have hzf := c4
    rw [hnf] at hzf
    obtain ⟨fa, hfa, efa⟩ := zin_nat (by omega) hzf
    subst efa
    refine z_iload_n (j := 2) o dX8_salts_8 rfl ?_
    refine z_callSi (As := [.int c]) (n := 1) (st := []) o dX8_salts_9 (c_X8_isCell hB M N c) zc_X8_109 (by decide) rfl rfl (Nat.le_of_ble_eq_true rfl) (fun r8 g9 p10 => ?_)
    obtain ⟨rfl, rfl⟩ := p10
    refine z_ifeq (tgt := 35) o dX8_salts_12 (by decide) (fun c11 => ?_) (fun c11 => ?_)
    · refine z_aload_n (j := 0) o dX8_salts_35 rfl ?_
      refine z_ldc (v := (-1000000001)) o dX8_salts_36 zk_X8_100 ?_
      refine z_callVi (As := [.int (-1000000001)]) (n := 1) (st := []) o dX8_salts_38 (c_X8_error hB M N 1 (by omega)) zc_X8_101 (by decide) (i := 82) (by rw [hB]; exact zsh_lt rfl (by decide)) (zg_o rfl (by decide)) rfl rfl rfl (Nat.le_of_ble_eq_true rfl) (fun r12 g13 p14 => ?_)
      obtain ⟨rfl, rfl⟩ := p14
      exact kret _ _ _ _ dX8_salts_41 ⟨_, rfl, by unfold sq_salts; (try rw [zn_nI (n := fa) (by omega)]); rw [if_neg c4, if_pos c11] <;> (try rfl), by unfold sq_salts; (try rw [zn_nI (n := fa) (by omega)]); rw [if_neg c4, if_pos c11] <;> exact zQ.rf⟩
    · obtain ⟨ca, hca, eca⟩ := zin_lit (n := 63) rfl (by decide) c11
      subst eca
      refine z_iload_n (j := 3) o dX8_salts_15 rfl ?_
      refine z_iconst (v := 0) o dX8_salts_16 (by decide) ?_
      refine z_bipush (v := 6) o dX8_salts_17 (by decide) ?_
      refine z_callSi (As := [.int n, .int 0, .int 6]) (n := 3) (st := []) o dX8_salts_19 (c_X8_in hB M N n 0 6) zc_X8_51 (by decide) rfl rfl (Nat.le_of_ble_eq_true rfl) (fun r15 g16 p17 => ?_)
      obtain ⟨rfl, rfl⟩ := p17
      refine z_ifeq (tgt := 35) o dX8_salts_22 (by decide) (fun c18 => ?_) (fun c18 => ?_)
      · refine z_aload_n (j := 0) o dX8_salts_35 rfl ?_
        refine z_ldc (v := (-1000000001)) o dX8_salts_36 zk_X8_100 ?_
        refine z_callVi (As := [.int (-1000000001)]) (n := 1) (st := []) o dX8_salts_38 (c_X8_error hB M N 1 (by omega)) zc_X8_101 (by decide) (i := 82) (by rw [hB]; exact zsh_lt rfl (by decide)) (zg_o rfl (by decide)) rfl rfl rfl (Nat.le_of_ble_eq_true rfl) (fun r19 g20 p21 => ?_)
        obtain ⟨rfl, rfl⟩ := p21
        exact kret _ _ _ _ dX8_salts_41 ⟨_, rfl, by unfold sq_salts; (try rw [zn_nI (n := fa) (by omega)]); (try rw [zn_nI (n := ca) (by omega)]); rw [if_neg c4, if_neg c11, if_pos c18] <;> (try rfl), by unfold sq_salts; (try rw [zn_nI (n := fa) (by omega)]); (try rw [zn_nI (n := ca) (by omega)]); rw [if_neg c4, if_neg c11, if_pos c18] <;> exact zQ.rf⟩
      · obtain ⟨na, hna, ena⟩ := zin_lit (n := 6) rfl (by decide) c18
        subst ena
        refine z_iload (j := 4) o dX8_salts_25 rfl ?_
        refine z_iconst (v := (-1)) o dX8_salts_27 (by decide) ?_
        refine z_iconst (v := 1) o dX8_salts_28 (by decide) ?_
        refine z_callSi (As := [.int w, .int (-1), .int 1]) (n := 3) (st := []) o dX8_salts_29 (c_X8_in hB M N w (-1) 1) zc_X8_51 (by decide) rfl rfl (Nat.le_of_ble_eq_true rfl) (fun r22 g23 p24 => ?_)
        obtain ⟨rfl, rfl⟩ := p24
        refine z_ifne (tgt := 42) o dX8_salts_32 (by decide) (fun c25 => ?_) (fun c25 => ?_)
        · refine z_aload_n (j := 0) o dX8_salts_42 rfl ?_
          refine z_callVv (As := []) (n := 0) (st := []) o dX8_salts_43 (c_X8_thinks hB M N) zc_X8_212 (by decide) (i := 82) (by rw [hB]; exact zsh_lt rfl (by decide)) (zg_o rfl (by decide)) rfl rfl rfl (Nat.le_of_ble_eq_true rfl) (fun g27 p28 => ?_)
          cases p28
          refine zo_nm (fun M29 hM29 => ?_)
          subst hM29
          refine z_aload_n (j := 0) o dX8_salts_46 rfl ?_
          refine z_iload_n (j := 1) o dX8_salts_47 rfl ?_
          refine z_iload_n (j := 2) o dX8_salts_48 rfl ?_
          refine z_iload_n (j := 3) o dX8_salts_49 rfl ?_
          refine z_iconst (v := (-1)) o dX8_salts_50 (by decide) ?_
          refine z_iconst (v := (-1)) o dX8_salts_51 (by decide) ?_
          refine z_callVi (As := [.int (nI fa), .int (nI ca), .int (nI na), .int (-1), .int (-1)]) (n := 5) (st := []) o dX8_salts_52 (c_X8_isHad hB (va_up M 85 (M 83)) N fa ca na (-1) (-1) (by omega) (by omega) (by omega) (Or.inl (by decide)) (Or.inl (by decide)) (show zOkR (M 83) from hok.1) (va_up_self _ _ _)) zc_X8_219 (by decide) (i := 82) (by rw [hB]; exact zsh_lt rfl (by decide)) (zg_o rfl (by decide)) rfl rfl rfl (Nat.le_of_ble_eq_true rfl) (fun r30 g31 p32 => ?_)
          obtain ⟨rfl, rfl⟩ := p32
          refine zo_rw (y := if sp_hadB (M 83) fa ca na (-1) (-1) then 1 else 0) (rfl) ?_
          refine z_ifeq (tgt := 69) o dX8_salts_55 (by decide) (fun c33 => ?_) (fun c33 => ?_)
          · have hn0 : ¬ sp_hadB (M 83) fa ca na (-1) (-1) = true := by rw [had_f c33]; decide
            refine z_iconst (v := 0) o dX8_salts_69 (by decide) ?_
            refine z_istore (i := 5) (lv2 := [(5, .int 0), (0, zref B 82), (1, .int (nI fa)), (2, .int (nI ca)), (3, .int (nI na)), (4, .int w)]) o dX8_salts_70 (by decide) rfl ?_
            have LOOPA : ∀ nq kq : Nat, kq + nq = 64 → sp_sa (M 83) fa ca na = sp_find (fun a => sp_hadB (M 83) fa ca na (nI a) (-1)) nq kq → zW X B (zg B (va_up M 85 (M 83)) N) 72 [(5, .int (nI kq)), (0, zref B 82), (1, .int (nI fa)), (2, .int (nI ca)), (3, .int (nI na)), (4, .int w)] [] := by
              intro nq
              induction nq with
              | zero =>
                intro kq hkq hs
                obtain rfl : kq = 64 := by omega
                have hA : ¬ sp_sa (M 83) fa ca na < 64 := by rw [show sp_sa (M 83) fa ca na = 64 from hs]; decide
                refine z_iload (j := 0) o dX8_salts_72 rfl ?_
                refine z_bipush (v := 64) o dX8_salts_74 (by decide) ?_
                refine z_icmpge (tgt := 119) o dX8_salts_76 (by decide) (fun c34 => ?_) (fun c34 => ?_)
                · refine z_iconst (v := 0) o dX8_salts_119 (by decide) ?_
                  refine z_istore (i := 5) (lv2 := [(5, .int 0), (0, zref B 82), (1, .int (nI fa)), (2, .int (nI ca)), (3, .int (nI na)), (4, .int w)]) o dX8_salts_120 (by decide) rfl ?_
                  have LOOPB : ∀ nr ar : Nat, ar + nr = 64 → sp_sab (M 83) fa ca na = sp_find (fun a => decide (sp_sb (M 83) fa ca na a < 64)) nr ar → zW X B (zg B (va_up M 85 (M 83)) N) 122 [(5, .int (nI ar)), (0, zref B 82), (1, .int (nI fa)), (2, .int (nI ca)), (3, .int (nI na)), (4, .int w)] [] := by
                    intro nr
                    induction nr with
                    | zero =>
                      intro ar har hs
                      obtain rfl : ar = 64 := by omega
                      have hB2 : ¬ sp_sab (M 83) fa ca na < 64 := by rw [show sp_sab (M 83) fa ca na = 64 from hs]; decide
                      refine z_iload (j := 0) o dX8_salts_122 rfl ?_
                      refine z_bipush (v := 64) o dX8_salts_124 (by decide) ?_
                      refine z_icmpge (tgt := 190) o dX8_salts_126 (by decide) (fun c35 => ?_) (fun c35 => ?_)
                      · refine z_aload_n (j := 1) o dX8_salts_190 rfl ?_
                        refine z_ldc (v := (-1000000002)) o dX8_salts_191 zk_X8_218 ?_
                        refine z_callVi (As := [.int (-1000000002)]) (n := 1) (st := []) o dX8_salts_193 (c_X8_error hB (va_up M 85 (M 83)) N 2 (by omega)) zc_X8_101 (by decide) (i := 82) (by rw [hB]; exact zsh_lt rfl (by decide)) (zg_o rfl (by decide)) rfl rfl rfl (Nat.le_of_ble_eq_true rfl) (fun r36 g37 p38 => ?_)
                        obtain ⟨rfl, rfl⟩ := p38
                        exact kret _ _ _ _ dX8_salts_196 ⟨_, rfl, by unfold sq_salts; (try rw [zn_nI (n := fa) (by omega)]); (try rw [zn_nI (n := ca) (by omega)]); (try rw [zn_nI (n := na) (by omega)]); rw [if_neg c4, if_neg c11, if_neg c18, if_neg c25, if_neg hn0, if_neg hA, if_neg hB2] <;> (try rfl), by unfold sq_salts; (try rw [zn_nI (n := fa) (by omega)]); (try rw [zn_nI (n := ca) (by omega)]); (try rw [zn_nI (n := na) (by omega)]); rw [if_neg c4, if_neg c11, if_neg c18, if_neg c25, if_neg hn0, if_neg hA, if_neg hB2] <;> exact (zQ.rf.va (i := 85) (by decide)).er⟩
                      · exact absurd c35 (nI_nlt (a := 64) (b := 64) (by omega) (by omega))
                    | succ nr ihr =>
                      intro ar har hs
                      have hltr : ar < 64 := by omega
                      refine z_iload (j := 0) o dX8_salts_122 rfl ?_
                      refine z_bipush (v := 64) o dX8_salts_124 (by decide) ?_
                      refine z_icmpge (tgt := 190) o dX8_salts_126 (by decide) (fun c39 => ?_) (fun c39 => ?_)
                      · exact absurd (nI_lt (a := ar) (b := 64) (by omega) (by omega)) c39
                      · refine z_iload (j := 0) o dX8_salts_129 rfl ?_
                        refine z_iconst (v := 1) o dX8_salts_131 (by decide) ?_
                        refine z_iadd o dX8_salts_132 ?_
                        refine zo_rw (y := nI (ar + 1)) (zn_add (rfl) (rfl)) ?_
                        refine z_istore (i := 6) (lv2 := [(6, .int (nI (ar + 1))), (5, .int (nI ar)), (0, zref B 82), (1, .int (nI fa)), (2, .int (nI ca)), (3, .int (nI na)), (4, .int w)]) o dX8_salts_133 (by decide) rfl ?_
                        have LOOPC : ∀ nt br : Nat, br + nt = 64 → ar < br → sp_sb (M 83) fa ca na ar = sp_find (fun b => sp_hadB (M 83) fa ca na (nI ar) (nI b)) nt br → zW X B (zg B (va_up M 85 (M 83)) N) 135 [(6, .int (nI br)), (5, .int (nI ar)), (0, zref B 82), (1, .int (nI fa)), (2, .int (nI ca)), (3, .int (nI na)), (4, .int w)] [] := by
                          intro nt
                          induction nt with
                          | zero =>
                            intro br hbr hab hsb
                            obtain rfl : br = 64 := by omega
                            have hs3 : sp_sab (M 83) fa ca na = sp_find (fun a => decide (sp_sb (M 83) fa ca na a < 64)) nr (ar + 1) := hs.trans (sp_find_f (decide_eq_false (by rw [show sp_sb (M 83) fa ca na ar = 64 from hsb]; decide)))
                            refine z_iload (j := 0) o dX8_salts_135 rfl ?_
                            refine z_bipush (v := 64) o dX8_salts_137 (by decide) ?_
                            refine z_icmpge (tgt := 184) o dX8_salts_139 (by decide) (fun c40 => ?_) (fun c40 => ?_)
                            · refine z_iinc (j := 1) (v := nI (ar + 1)) (lv2 := [(5, .int (nI (ar + 1))), (6, .int (nI 64)), (0, zref B 82), (1, .int (nI fa)), (2, .int (nI ca)), (3, .int (nI na)), (4, .int w)]) o dX8_salts_184 rfl (zn_ofInt _) (by decide) rfl ?_
                              refine z_goto (tgt := 122) o dX8_salts_187 (by decide) ?_
                              refine zo_lv [0, 2, 3, 4, 5, 6] rfl ?_
                              exact ihr (ar + 1) (by omega) hs3
                            · exact absurd c40 (nI_nlt (a := 64) (b := 64) (by omega) (by omega))
                          | succ nt iht =>
                            intro br hbr hab hsb
                            have hltb : br < 64 := by omega
                            refine z_iload (j := 0) o dX8_salts_135 rfl ?_
                            refine z_bipush (v := 64) o dX8_salts_137 (by decide) ?_
                            refine z_icmpge (tgt := 184) o dX8_salts_139 (by decide) (fun c41 => ?_) (fun c41 => ?_)
                            · exact absurd (nI_lt (a := br) (b := 64) (by omega) (by omega)) c41
                            · refine z_aload_n (j := 2) o dX8_salts_142 rfl ?_
                              refine z_iload_n (j := 3) o dX8_salts_143 rfl ?_
                              refine z_iload_n (j := 4) o dX8_salts_144 rfl ?_
                              refine z_iload_n (j := 5) o dX8_salts_145 rfl ?_
                              refine z_iload (j := 1) o dX8_salts_146 rfl ?_
                              refine z_iload (j := 0) o dX8_salts_148 rfl ?_
                              refine z_callVi (As := [.int (nI fa), .int (nI ca), .int (nI na), .int (nI ar), .int (nI br)]) (n := 5) (st := []) o dX8_salts_150 (c_X8_isHad hB (va_up M 85 (M 83)) N fa ca na (nI ar) (nI br) (by omega) (by omega) (by omega) (Or.inr ⟨ar, by omega, rfl⟩) (Or.inr ⟨br, by omega, rfl⟩) (show zOkR (M 83) from hok.1) (va_up_self _ _ _)) zc_X8_219 (by decide) (i := 82) (by rw [hB]; exact zsh_lt rfl (by decide)) (zg_o rfl (by decide)) rfl rfl rfl (Nat.le_of_ble_eq_true rfl) (fun r42 g43 p44 => ?_)
                              obtain ⟨rfl, rfl⟩ := p44
                              refine zo_rw (y := if sp_hadB (M 83) fa ca na (nI ar) (nI br) then 1 else 0) (rfl) ?_
                              refine z_ifeq (tgt := 178) o dX8_salts_153 (by decide) (fun c45 => ?_) (fun c45 => ?_)
                              · have hsb2 : sp_sb (M 83) fa ca na ar = sp_find (fun b => sp_hadB (M 83) fa ca na (nI ar) (nI b)) nt (br + 1) := hsb.trans (sp_find_f (had_f c45))
                                refine z_iinc (j := 0) (v := nI (br + 1)) (lv2 := [(6, .int (nI (br + 1))), (5, .int (nI ar)), (0, zref B 82), (1, .int (nI fa)), (2, .int (nI ca)), (3, .int (nI na)), (4, .int w)]) o dX8_salts_178 rfl (zn_ofInt _) (by decide) rfl ?_
                                refine z_goto (tgt := 135) o dX8_salts_181 (by decide) ?_
                                refine zo_lv [0, 1, 2, 3, 4, 5, 6] rfl ?_
                                exact iht (br + 1) (by omega) (by omega) hsb2
                              · have hfb : sp_sb (M 83) fa ca na ar = br := hsb.trans (sp_find_t (had_t c45))
                                have hf : sp_sab (M 83) fa ca na = ar := hs.trans (sp_find_t (decide_eq_true (by rw [hfb]; exact hltb)))
                                have hB2 : sp_sab (M 83) fa ca na < 64 := by rw [hf]; omega
                                refine z_iload (j := 6) o dX8_salts_156 rfl ?_
                                refine z_ifge (tgt := 165) o dX8_salts_158 (by decide) (fun c46 => ?_) (fun c46 => ?_)
                                · refine z_iload (j := 6) o dX8_salts_165 rfl ?_
                                  refine z_ifne (tgt := 175) o dX8_salts_167 (by decide) (fun c47 => ?_) (fun c47 => ?_)
                                  · refine z_iload (j := 0) o dX8_salts_175 rfl ?_
                                    exact kret _ _ _ _ dX8_salts_177 ⟨_, rfl, by unfold sq_salts; (try rw [zn_nI (n := fa) (by omega)]); (try rw [zn_nI (n := ca) (by omega)]); (try rw [zn_nI (n := na) (by omega)]); rw [if_neg c4, if_neg c11, if_neg c18, if_neg c25, if_neg hn0, if_neg hA, if_pos hB2, if_neg c46, if_neg c47] <;> (try rw [hf]) <;> (try rw [hfb]) <;> (try rfl), by unfold sq_salts; (try rw [zn_nI (n := fa) (by omega)]); (try rw [zn_nI (n := ca) (by omega)]); (try rw [zn_nI (n := na) (by omega)]); rw [if_neg c4, if_neg c11, if_neg c18, if_neg c25, if_neg hn0, if_neg hA, if_pos hB2, if_neg c46, if_neg c47] <;> exact (zQ.rf.va (i := 85) (by decide))⟩
                                  · refine z_iload (j := 1) o dX8_salts_170 rfl ?_
                                    refine z_goto (tgt := 177) o dX8_salts_172 (by decide) ?_
                                    exact kret _ _ _ _ dX8_salts_177 ⟨_, rfl, by unfold sq_salts; (try rw [zn_nI (n := fa) (by omega)]); (try rw [zn_nI (n := ca) (by omega)]); (try rw [zn_nI (n := na) (by omega)]); rw [if_neg c4, if_neg c11, if_neg c18, if_neg c25, if_neg hn0, if_neg hA, if_pos hB2, if_neg c46, if_pos c47] <;> (try rw [hf]) <;> (try rw [hfb]) <;> (try rfl), by unfold sq_salts; (try rw [zn_nI (n := fa) (by omega)]); (try rw [zn_nI (n := ca) (by omega)]); (try rw [zn_nI (n := na) (by omega)]); rw [if_neg c4, if_neg c11, if_neg c18, if_neg c25, if_neg hn0, if_neg hA, if_pos hB2, if_neg c46, if_pos c47] <;> exact (zQ.rf.va (i := 85) (by decide))⟩
                                · refine z_iconst (v := 2) o dX8_salts_161 (by decide) ?_
                                  refine z_goto (tgt := 177) o dX8_salts_162 (by decide) ?_
                                  exact kret _ _ _ _ dX8_salts_177 ⟨_, rfl, by unfold sq_salts; (try rw [zn_nI (n := fa) (by omega)]); (try rw [zn_nI (n := ca) (by omega)]); (try rw [zn_nI (n := na) (by omega)]); rw [if_neg c4, if_neg c11, if_neg c18, if_neg c25, if_neg hn0, if_neg hA, if_pos hB2, if_pos c46] <;> (try rw [hf]) <;> (try rw [hfb]) <;> (try rfl), by unfold sq_salts; (try rw [zn_nI (n := fa) (by omega)]); (try rw [zn_nI (n := ca) (by omega)]); (try rw [zn_nI (n := na) (by omega)]); rw [if_neg c4, if_neg c11, if_neg c18, if_neg c25, if_neg hn0, if_neg hA, if_pos hB2, if_pos c46] <;> exact (zQ.rf.va (i := 85) (by decide))⟩
                        refine zo_lv [0, 1, 2, 3, 4, 5, 6] rfl ?_
                        exact LOOPC (63 - ar) (ar + 1) (by omega) (by omega) rfl
                  refine zo_lv [0, 1, 2, 3, 4, 5] rfl ?_
                  exact LOOPB 64 0 rfl rfl
                · exact absurd c34 (nI_nlt (a := 64) (b := 64) (by omega) (by omega))
              | succ nq ih =>
                intro kq hkq hs
                have hlt : kq < 64 := by omega
                refine z_iload (j := 0) o dX8_salts_72 rfl ?_
                refine z_bipush (v := 64) o dX8_salts_74 (by decide) ?_
                refine z_icmpge (tgt := 119) o dX8_salts_76 (by decide) (fun c48 => ?_) (fun c48 => ?_)
                · exact absurd (nI_lt (a := kq) (b := 64) (by omega) (by omega)) c48
                · refine z_aload_n (j := 1) o dX8_salts_79 rfl ?_
                  refine z_iload_n (j := 2) o dX8_salts_80 rfl ?_
                  refine z_iload_n (j := 3) o dX8_salts_81 rfl ?_
                  refine z_iload_n (j := 4) o dX8_salts_82 rfl ?_
                  refine z_iload (j := 0) o dX8_salts_83 rfl ?_
                  refine z_iconst (v := (-1)) o dX8_salts_85 (by decide) ?_
                  refine z_callVi (As := [.int (nI fa), .int (nI ca), .int (nI na), .int (nI kq), .int (-1)]) (n := 5) (st := []) o dX8_salts_86 (c_X8_isHad hB (va_up M 85 (M 83)) N fa ca na (nI kq) (-1) (by omega) (by omega) (by omega) (Or.inr ⟨kq, by omega, rfl⟩) (Or.inl (by decide)) (show zOkR (M 83) from hok.1) (va_up_self _ _ _)) zc_X8_219 (by decide) (i := 82) (by rw [hB]; exact zsh_lt rfl (by decide)) (zg_o rfl (by decide)) rfl rfl rfl (Nat.le_of_ble_eq_true rfl) (fun r49 g50 p51 => ?_)
                  obtain ⟨rfl, rfl⟩ := p51
                  refine zo_rw (y := if sp_hadB (M 83) fa ca na (nI kq) (-1) then 1 else 0) (rfl) ?_
                  refine z_ifeq (tgt := 113) o dX8_salts_89 (by decide) (fun c52 => ?_) (fun c52 => ?_)
                  · have hs2 : sp_sa (M 83) fa ca na = sp_find (fun a => sp_hadB (M 83) fa ca na (nI a) (-1)) nq (kq + 1) := hs.trans (sp_find_f (had_f c52))
                    refine z_iinc (j := 0) (v := nI (kq + 1)) (lv2 := [(5, .int (nI (kq + 1))), (0, zref B 82), (1, .int (nI fa)), (2, .int (nI ca)), (3, .int (nI na)), (4, .int w)]) o dX8_salts_113 rfl (zn_ofInt _) (by decide) rfl ?_
                    refine z_goto (tgt := 72) o dX8_salts_116 (by decide) ?_
                    refine zo_lv [0, 1, 2, 3, 4, 5] rfl ?_
                    exact ih (kq + 1) (by omega) hs2
                  · have hf : sp_sa (M 83) fa ca na = kq := hs.trans (sp_find_t (had_t c52))
                    have hA : sp_sa (M 83) fa ca na < 64 := by rw [hf]; omega
                    refine z_iload (j := 5) o dX8_salts_92 rfl ?_
                    refine z_ifge (tgt := 101) o dX8_salts_94 (by decide) (fun c53 => ?_) (fun c53 => ?_)
                    · refine z_iload (j := 5) o dX8_salts_101 rfl ?_
                      refine z_ifne (tgt := 111) o dX8_salts_103 (by decide) (fun c54 => ?_) (fun c54 => ?_)
                      · refine z_iconst (v := (-1)) o dX8_salts_111 (by decide) ?_
                        exact kret _ _ _ _ dX8_salts_112 ⟨_, rfl, by unfold sq_salts; (try rw [zn_nI (n := fa) (by omega)]); (try rw [zn_nI (n := ca) (by omega)]); (try rw [zn_nI (n := na) (by omega)]); rw [if_neg c4, if_neg c11, if_neg c18, if_neg c25, if_neg hn0, if_pos hA, if_neg c53, if_neg c54] <;> (try rw [hf]) <;> (try rfl), by unfold sq_salts; (try rw [zn_nI (n := fa) (by omega)]); (try rw [zn_nI (n := ca) (by omega)]); (try rw [zn_nI (n := na) (by omega)]); rw [if_neg c4, if_neg c11, if_neg c18, if_neg c25, if_neg hn0, if_pos hA, if_neg c53, if_neg c54] <;> exact (zQ.rf.va (i := 85) (by decide))⟩
                      · refine z_iload (j := 0) o dX8_salts_106 rfl ?_
                        refine z_goto (tgt := 112) o dX8_salts_108 (by decide) ?_
                        exact kret _ _ _ _ dX8_salts_112 ⟨_, rfl, by unfold sq_salts; (try rw [zn_nI (n := fa) (by omega)]); (try rw [zn_nI (n := ca) (by omega)]); (try rw [zn_nI (n := na) (by omega)]); rw [if_neg c4, if_neg c11, if_neg c18, if_neg c25, if_neg hn0, if_pos hA, if_neg c53, if_pos c54] <;> (try rw [hf]) <;> (try rfl), by unfold sq_salts; (try rw [zn_nI (n := fa) (by omega)]); (try rw [zn_nI (n := ca) (by omega)]); (try rw [zn_nI (n := na) (by omega)]); rw [if_neg c4, if_neg c11, if_neg c18, if_neg c25, if_neg hn0, if_pos hA, if_neg c53, if_pos c54] <;> exact (zQ.rf.va (i := 85) (by decide))⟩
                    · refine z_iconst (v := 1) o dX8_salts_97 (by decide) ?_
                      refine z_goto (tgt := 112) o dX8_salts_98 (by decide) ?_
                      exact kret _ _ _ _ dX8_salts_112 ⟨_, rfl, by unfold sq_salts; (try rw [zn_nI (n := fa) (by omega)]); (try rw [zn_nI (n := ca) (by omega)]); (try rw [zn_nI (n := na) (by omega)]); rw [if_neg c4, if_neg c11, if_neg c18, if_neg c25, if_neg hn0, if_pos hA, if_pos c53] <;> (try rw [hf]) <;> (try rfl), by unfold sq_salts; (try rw [zn_nI (n := fa) (by omega)]); (try rw [zn_nI (n := ca) (by omega)]); (try rw [zn_nI (n := na) (by omega)]); rw [if_neg c4, if_neg c11, if_neg c18, if_neg c25, if_neg hn0, if_pos hA, if_pos c53] <;> exact (zQ.rf.va (i := 85) (by decide))⟩
            refine zo_lv [0, 1, 2, 3, 4, 5] rfl ?_
            exact LOOPA 64 0 rfl rfl
          · refine z_iload (j := 4) o dX8_salts_58 rfl ?_
            refine z_ifge (tgt := 67) o dX8_salts_60 (by decide) (fun c55 => ?_) (fun c55 => ?_)
            · refine z_iconst (v := (-1)) o dX8_salts_67 (by decide) ?_
              exact kret _ _ _ _ dX8_salts_68 ⟨_, rfl, by unfold sq_salts; (try rw [zn_nI (n := fa) (by omega)]); (try rw [zn_nI (n := ca) (by omega)]); (try rw [zn_nI (n := na) (by omega)]); rw [if_neg c4, if_neg c11, if_neg c18, if_neg c25, if_pos (had_t c33), if_neg c55] <;> (try rw [hf]) <;> (try rfl), by unfold sq_salts; (try rw [zn_nI (n := fa) (by omega)]); (try rw [zn_nI (n := ca) (by omega)]); (try rw [zn_nI (n := na) (by omega)]); rw [if_neg c4, if_neg c11, if_neg c18, if_neg c25, if_pos (had_t c33), if_neg c55] <;> exact (zQ.rf.va (i := 85) (by decide))⟩
            · refine z_iconst (v := 0) o dX8_salts_63 (by decide) ?_
              refine z_goto (tgt := 68) o dX8_salts_64 (by decide) ?_
              exact kret _ _ _ _ dX8_salts_68 ⟨_, rfl, by unfold sq_salts; (try rw [zn_nI (n := fa) (by omega)]); (try rw [zn_nI (n := ca) (by omega)]); (try rw [zn_nI (n := na) (by omega)]); rw [if_neg c4, if_neg c11, if_neg c18, if_neg c25, if_pos (had_t c33), if_pos c55] <;> (try rw [hf]) <;> (try rfl), by unfold sq_salts; (try rw [zn_nI (n := fa) (by omega)]); (try rw [zn_nI (n := ca) (by omega)]); (try rw [zn_nI (n := na) (by omega)]); rw [if_neg c4, if_neg c11, if_neg c18, if_neg c25, if_pos (had_t c33), if_pos c55] <;> exact (zQ.rf.va (i := 85) (by decide))⟩
        · refine z_aload_n (j := 0) o dX8_salts_35 rfl ?_
          refine z_ldc (v := (-1000000001)) o dX8_salts_36 zk_X8_100 ?_
          refine z_callVi (As := [.int (-1000000001)]) (n := 1) (st := []) o dX8_salts_38 (c_X8_error hB M N 1 (by omega)) zc_X8_101 (by decide) (i := 82) (by rw [hB]; exact zsh_lt rfl (by decide)) (zg_o rfl (by decide)) rfl rfl rfl (Nat.le_of_ble_eq_true rfl) (fun r56 g57 p58 => ?_)
          obtain ⟨rfl, rfl⟩ := p58
          exact kret _ _ _ _ dX8_salts_41 ⟨_, rfl, by unfold sq_salts; (try rw [zn_nI (n := fa) (by omega)]); (try rw [zn_nI (n := ca) (by omega)]); (try rw [zn_nI (n := na) (by omega)]); rw [if_neg c4, if_neg c11, if_neg c18, if_pos c25] <;> (try rfl), by unfold sq_salts; (try rw [zn_nI (n := fa) (by omega)]); (try rw [zn_nI (n := ca) (by omega)]); (try rw [zn_nI (n := na) (by omega)]); rw [if_neg c4, if_neg c11, if_neg c18, if_pos c25] <;> exact zQ.rf⟩

