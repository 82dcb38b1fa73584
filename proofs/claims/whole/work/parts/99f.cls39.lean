/-! the class: the fewest salts -/
theorem tt_no {T S : Int64} {ρ : Nat → Int32} {a : Nat} (ha : a < 64) (hS : zBits S ρ 70) (h : cg_has (T &&& (S ^^^ (-1))) (nI a) = 0) : lbit T a = false ∨ ¬ ρ (70 + a) = 0 := by
  have h1 := (lb_has0 ha).mp (has_0.mp h)
  rw [lbit_and, lb_not ha, hS a ha] at h1
  cases q : lbit T a with
  | false => exact Or.inl rfl
  | true =>
    right
    intro w
    rw [q, decide_eq_false (fun z => z w)] at h1
    exact absurd h1 (by decide)
set_option maxHeartbeats 4000000 in
set_option maxRecDepth 100000 in
theorem c_X7_fewestSalts {B : zB} (hB : znn B = 95) (M : zM) (N : zN) (A : zM) (fa cc na : Nat) (hR : zRl M N A) (hok : zOkAll (A 83)) (hfa : fa < sp_nf (A 83)) (hcc : cc < 64) (hna : na ≤ 6) : zCl B (zg B M N) yX7_fewestSalts cX7_fewestSalts 10 (some .long) 5 [zref B 0, .int (nI fa), .int (nI cc), .int (nI na)] (fun x g' => ∃ M1 : zM, g' = zg B M1 N ∧ (∀ j, j < 53 ∨ 61 ≤ j → M1 j = M j) ∧ x = sp_few (A 83) fa cc na) := by
  refine zCl_of (by decide +kernel) (Nat.le_of_ble_eq_true rfl) ?_
  intro X o kret
  show zW X B (zg B M N) 0 [(0, zref B 0), (1, .int (nI fa)), (2, .int (nI cc)), (3, .int (nI na))] []
  obtain ⟨hnf, hnf4⟩ := ok_nf2 hok.1
  have hm0 : (∀ j, j < 53 ∨ 61 ≤ j → M j = M j) := fun _ _ => rfl
  have hsS := hR.1.2.2.2.1
  refine z_aload_n (j := 0) o dX7_fewestSalts_0 rfl ?_
  refine z_iload_n (j := 1) o dX7_fewestSalts_1 rfl ?_
  refine z_iload_n (j := 2) o dX7_fewestSalts_2 rfl ?_
  refine z_iload_n (j := 3) o dX7_fewestSalts_3 rfl ?_
  refine z_lconst (v := 0) o dX7_fewestSalts_4 (by decide) ?_
  refine z_callVi (As := [.int (nI fa), .int (nI cc), .int (nI na), .long 0]) (n := 4) (st := []) o dX7_fewestSalts_5 (c_X7_isInsideSalted hB M N A fa cc na (-1) (-1) 0 (hR.few hm0) hok hfa hcc hna cell_m cell_m (by unfold sp_salt; rw [salt1_m, salt1_m]; exact hsS.or0)) zc_X7_297 (by decide) (i := 0) (by rw [hB]; exact zsh_lt rfl (by decide)) (zg_o rfl (by decide)) rfl rfl rfl (Nat.le_of_ble_eq_true rfl) (fun r1 g2 p3 => ?_)
  obtain ⟨M4, rfl, hnM4, eM4⟩ := p3
  have hwM4 : (∀ j, j < 53 ∨ 61 ≤ j → M4 j = M j) := fun j hj => (hnM4 j (by omega) (by omega)).trans (hm0 j hj)
  cases hqM4 : sp_hadB (A 83) fa cc na (-1) (-1) with
  | false =>
    refine zo_rw (y := 0) (by rw [eM4, hqM4]; rfl) ?_
    refine z_ifeq (tgt := 13) o dX7_fewestSalts_8 (by decide) (fun c5 => ?_) (fun c5 => ?_)
    · refine z_aload_n (j := 0) o dX7_fewestSalts_13 rfl ?_
      refine zo_get (i := 0) o hB dX7_fewestSalts_14 zf_X7_10 rfl (by decide) (rfl) ?_
      refine zo_get (i := 1) o hB dX7_fewestSalts_17 zf_X7_62 rfl (by decide) (rfl) ?_
      refine z_iload_n (j := 1) o dX7_fewestSalts_20 rfl ?_
      refine zo_aldF (i := 2) (j := fa) o hB dX7_fewestSalts_21 rfl (show fa < 4 by omega) (by decide) ?_
      refine z_aload_n (j := 0) o dX7_fewestSalts_22 rfl ?_
      refine zo_get (i := 0) o hB dX7_fewestSalts_23 zf_X7_10 rfl (by decide) (rfl) ?_
      refine zo_get (i := 1) o hB dX7_fewestSalts_26 zf_X7_116 rfl (by decide) (rfl) ?_
      refine zo_rw (y := A 83 0) (((hR.few hwM4).1.1.2.2.1)) ?_
      refine z_iload_n (j := 3) o dX7_fewestSalts_29 rfl ?_
      refine z_callVl (As := [.int (A 83 0), .int (nI na)]) (n := 2) (st := []) o dX7_fewestSalts_30 (c_X0_tried hB M4 N (9 + 2 * fa) fa (A 83) (A 83 0) na ((zh_R (r := 1) rfl).2.2.2.2.2.2.2.1 fa (by omega)) (by omega) hok.1 ((hR.few hwM4).1.2.1 fa (by omega)) (by omega)) zc_X7_301 (by decide) (i := 9 + 2 * fa) (by rw [hB]; exact zsh_lt ((zh_R (r := 1) rfl).2.2.2.2.2.2.2.1 fa (by omega)) (by decide)) (zg_o ((zh_R (r := 1) rfl).2.2.2.2.2.2.2.1 fa (by omega)) (by decide)) rfl rfl rfl (Nat.le_of_ble_eq_true rfl) (fun r6 g7 p8 => ?_)
      obtain ⟨rfl, rfl⟩ := p8
      refine z_aload_n (j := 0) o dX7_fewestSalts_33 rfl ?_
      refine zo_get (i := 0) o hB dX7_fewestSalts_34 zf_X7_10 rfl (by decide) (rfl) ?_
      refine zo_get (i := 1) o hB dX7_fewestSalts_37 zf_X7_126 rfl (by decide) (rfl) ?_
      refine z_ldc2 (v := (-1)) o dX7_fewestSalts_40 zk_X7_137 ?_
      refine z_lxor o dX7_fewestSalts_43 ?_
      refine z_land o dX7_fewestSalts_44 ?_
      refine z_lstore (i := 4) (lv2 := [(4, .long ((tr_p (A 83) fa na (A 83 0) (sp_np (A 83) fa)) &&& ((N 1 5) ^^^ (-1)))), (0, zref B 0), (1, .int (nI fa)), (2, .int (nI cc)), (3, .int (nI na))]) o dX7_fewestSalts_45 (by decide) rfl ?_
      refine z_iconst (v := 0) o dX7_fewestSalts_47 (by decide) ?_
      refine z_istore (i := 6) (lv2 := [(6, .int 0), (4, .long ((tr_p (A 83) fa na (A 83 0) (sp_np (A 83) fa)) &&& ((N 1 5) ^^^ (-1)))), (0, zref B 0), (1, .int (nI fa)), (2, .int (nI cc)), (3, .int (nI na))]) o dX7_fewestSalts_48 (by decide) rfl ?_
      have hq0 : sp_hadB (A 83) fa cc na (-1) (-1) = false := hqM4
      have LOOP : ∀ nq kq : Nat, kq + nq = 64 → ∀ M1 : zM, (∀ j, j < 53 ∨ 61 ≤ j → M1 j = M j) → sp_sa (A 83) fa cc na = sp_find (fun a => sp_hadB (A 83) fa cc na (nI a) (-1)) nq kq → zW X B (zg B M1 N) 50 [(6, .int (nI kq)), (4, .long ((tr_p (A 83) fa na (A 83 0) (sp_np (A 83) fa)) &&& (N 1 5 ^^^ (-1)))), (0, zref B 0), (1, .int (nI fa)), (2, .int (nI cc)), (3, .int (nI na))] [] := by
        intro nq
        induction nq with
        | zero =>
          intro kq hkq M1 hm1 hF1
          obtain rfl : kq = 64 := by omega
          have hsa : sp_sa (A 83) fa cc na = 64 := hF1
          refine z_iload (j := 0) o dX7_fewestSalts_50 rfl ?_
          refine z_bipush (v := 64) o dX7_fewestSalts_52 (by decide) ?_
          refine z_icmpge (tgt := 94) o dX7_fewestSalts_54 (by decide) (fun c9 => ?_) (fun c9 => ?_)
          · refine z_iconst (v := 0) o dX7_fewestSalts_94 (by decide) ?_
            refine z_istore (i := 6) (lv2 := [(6, .int 0), (4, .long ((tr_p (A 83) fa na (A 83 0) (sp_np (A 83) fa)) &&& (N 1 5 ^^^ (-1)))), (0, zref B 0), (1, .int (nI fa)), (2, .int (nI cc)), (3, .int (nI na))]) o dX7_fewestSalts_95 (by decide) rfl ?_
            have hsf : ∀ a, a < 64 → sp_hadB (A 83) fa cc na (nI a) (-1) = false := fun a ha => find_all 64 0 hsa a (Nat.zero_le _) (by omega)
            have LOOP2 : ∀ nq kq : Nat, kq + nq = 64 → ∀ M1 : zM, (∀ j, j < 53 ∨ 61 ≤ j → M1 j = M j) → sp_sab (A 83) fa cc na = sp_find (fun a => decide (sp_sb (A 83) fa cc na a < 64)) nq kq → zW X B (zg B M1 N) 97 [(6, .int (nI kq)), (4, .long ((tr_p (A 83) fa na (A 83 0) (sp_np (A 83) fa)) &&& (N 1 5 ^^^ (-1)))), (0, zref B 0), (1, .int (nI fa)), (2, .int (nI cc)), (3, .int (nI na))] [] := by
              intro nq
              induction nq with
              | zero =>
                intro kq hkq M1 hm1 hF2
                obtain rfl : kq = 64 := by omega
                have hsab : sp_sab (A 83) fa cc na = 64 := hF2
                refine z_iload (j := 0) o dX7_fewestSalts_97 rfl ?_
                refine z_bipush (v := 64) o dX7_fewestSalts_99 (by decide) ?_
                refine z_icmpge (tgt := 177) o dX7_fewestSalts_101 (by decide) (fun c10 => ?_) (fun c10 => ?_)
                · refine z_ldc2 (v := (-1)) o dX7_fewestSalts_177 zk_X7_137 ?_
                  exact kret _ _ _ _ dX7_fewestSalts_180 ⟨M1, rfl, hm1, by unfold sp_few; rw [if_neg (by rw [hq0]; exact Bool.false_ne_true), hsa, if_neg (by decide), hsab, if_neg (by decide)]⟩
                · exact absurd c10 (nI_nlt (a := 64) (b := 64) (by omega) (by omega))
              | succ nq ih =>
                intro kq hkq M1 hm1 hF2
                have hlt : kq < 64 := by omega
                refine z_iload (j := 0) o dX7_fewestSalts_97 rfl ?_
                refine z_bipush (v := 64) o dX7_fewestSalts_99 (by decide) ?_
                refine z_icmpge (tgt := 177) o dX7_fewestSalts_101 (by decide) (fun c11 => ?_) (fun c11 => ?_)
                · exact absurd (nI_lt (a := kq) (b := 64) (by omega) (by omega)) c11
                · refine z_iload (j := 0) o dX7_fewestSalts_104 rfl ?_
                  refine z_iconst (v := 1) o dX7_fewestSalts_106 (by decide) ?_
                  refine z_iadd o dX7_fewestSalts_107 ?_
                  refine zo_rw (y := nI (kq + 1)) (zn_add (rfl) (rfl)) ?_
                  refine z_istore (i := 7) (lv2 := [(7, .int (nI (kq + 1))), (6, .int (nI kq)), (4, .long ((tr_p (A 83) fa na (A 83 0) (sp_np (A 83) fa)) &&& (N 1 5 ^^^ (-1)))), (0, zref B 0), (1, .int (nI fa)), (2, .int (nI cc)), (3, .int (nI na))]) o dX7_fewestSalts_108 (by decide) rfl ?_
                  have LOOP3 : ∀ mq jq : Nat, jq + mq = 64 → kq < jq → ∀ M2 : zM, (∀ j, j < 53 ∨ 61 ≤ j → M2 j = M j) → sp_sb (A 83) fa cc na kq = sp_find (fun b => sp_hadB (A 83) fa cc na (nI kq) (nI b)) mq jq → zW X B (zg B M2 N) 110 [(7, .int (nI jq)), (6, .int (nI kq)), (4, .long ((tr_p (A 83) fa na (A 83 0) (sp_np (A 83) fa)) &&& (N 1 5 ^^^ (-1)))), (0, zref B 0), (1, .int (nI fa)), (2, .int (nI cc)), (3, .int (nI na))] [] := by
                    intro mq
                    induction mq with
                    | zero =>
                      intro jq hjq hkj M2 hm2 hF3
                      obtain rfl : jq = 64 := by omega
                      have hsb : sp_sb (A 83) fa cc na kq = 64 := hF3
                      refine z_iload (j := 0) o dX7_fewestSalts_110 rfl ?_
                      refine z_bipush (v := 64) o dX7_fewestSalts_112 (by decide) ?_
                      refine z_icmpge (tgt := 171) o dX7_fewestSalts_114 (by decide) (fun c12 => ?_) (fun c12 => ?_)
                      · refine z_iinc (j := 1) (v := nI (kq + 1)) (lv2 := [(6, .int (nI (kq + 1))), (7, .int (nI 64)), (4, .long ((tr_p (A 83) fa na (A 83 0) (sp_np (A 83) fa)) &&& (N 1 5 ^^^ (-1)))), (0, zref B 0), (1, .int (nI fa)), (2, .int (nI cc)), (3, .int (nI na))]) o dX7_fewestSalts_171 rfl (zn_ofInt _) (by decide) rfl ?_
                        refine z_goto (tgt := 97) o dX7_fewestSalts_174 (by decide) ?_
                        refine zo_lv [0, 2, 3, 4, 5, 6] rfl ?_
                        exact ih (kq + 1) (by omega) _ hm2 (hF2.trans (sp_find_f (decide_eq_false (by rw [hsb]; decide))))
                      · exact absurd c12 (nI_nlt (a := 64) (b := 64) (by omega) (by omega))
                    | succ mq ih3 =>
                      intro jq hjq hkj M2 hm2 hF3
                      have hltj : jq < 64 := by omega
                      refine z_iload (j := 0) o dX7_fewestSalts_110 rfl ?_
                      refine z_bipush (v := 64) o dX7_fewestSalts_112 (by decide) ?_
                      refine z_icmpge (tgt := 171) o dX7_fewestSalts_114 (by decide) (fun c13 => ?_) (fun c13 => ?_)
                      · exact absurd (nI_lt (a := jq) (b := 64) (by omega) (by omega)) c13
                      · refine z_lload (j := 2) o dX7_fewestSalts_117 rfl ?_
                        refine z_iload (j := 1) o dX7_fewestSalts_119 rfl ?_
                        refine z_callSi (As := [.long ((tr_p (A 83) fa na (A 83 0) (sp_np (A 83) fa)) &&& (N 1 5 ^^^ (-1))), .int (nI kq)]) (n := 2) (st := []) o dX7_fewestSalts_121 (c_X1_has hB M2 N ((tr_p (A 83) fa na (A 83 0) (sp_np (A 83) fa)) &&& (N 1 5 ^^^ (-1))) (nI kq)) zc_X7_139 (by decide) rfl rfl (Nat.le_of_ble_eq_true rfl) (fun r14 g15 p16 => ?_)
                        obtain ⟨rfl, rfl⟩ := p16
                        refine z_ifeq (tgt := 171) o dX7_fewestSalts_124 (by decide) (fun c17 => ?_) (fun c17 => ?_)
                        · have hsb : sp_sb (A 83) fa cc na kq = kq + 1 + (63 - kq) := find_no (63 - kq) (kq + 1) (fun b h1 h2 => by
                            show sp_hadB (A 83) fa cc na (nI kq) (nI b) = false
                            rw [had_a hok.1 hfa hlt (cell_n (by omega)) (tt_no hlt hsS c17), had_sw]; exact hsf b (by omega))
                          refine z_iinc (j := 1) (v := nI (kq + 1)) (lv2 := [(6, .int (nI (kq + 1))), (7, .int (nI jq)), (4, .long ((tr_p (A 83) fa na (A 83 0) (sp_np (A 83) fa)) &&& (N 1 5 ^^^ (-1)))), (0, zref B 0), (1, .int (nI fa)), (2, .int (nI cc)), (3, .int (nI na))]) o dX7_fewestSalts_171 rfl (zn_ofInt _) (by decide) rfl ?_
                          refine z_goto (tgt := 97) o dX7_fewestSalts_174 (by decide) ?_
                          refine zo_lv [0, 2, 3, 4, 5, 6] rfl ?_
                          exact ih (kq + 1) (by omega) _ hm2 (hF2.trans (sp_find_f (decide_eq_false (by rw [hsb]; omega))))
                        · refine z_iload (j := 1) o dX7_fewestSalts_127 rfl ?_
                          refine z_callSl (As := [.int (nI kq)]) (n := 1) (st := []) o dX7_fewestSalts_129 (c_X1_bit hB M2 N (nI kq)) zc_X7_133 (by decide) rfl rfl (Nat.le_of_ble_eq_true rfl) (fun r18 g19 p20 => ?_)
                          obtain ⟨rfl, rfl⟩ := p20
                          refine z_iload (j := 0) o dX7_fewestSalts_132 rfl ?_
                          refine z_callSl (As := [.int (nI jq)]) (n := 1) (st := [.long (zlshl 1 (nI kq))]) o dX7_fewestSalts_134 (c_X1_bit hB M2 N (nI jq)) zc_X7_133 (by decide) rfl rfl (Nat.le_of_ble_eq_true rfl) (fun r21 g22 p23 => ?_)
                          obtain ⟨rfl, rfl⟩ := p23
                          refine z_lor o dX7_fewestSalts_137 ?_
                          refine z_lstore (i := 8) (lv2 := [(8, .long ((zlshl 1 (nI kq)) ||| (zlshl 1 (nI jq)))), (7, .int (nI jq)), (6, .int (nI kq)), (4, .long ((tr_p (A 83) fa na (A 83 0) (sp_np (A 83) fa)) &&& (N 1 5 ^^^ (-1)))), (0, zref B 0), (1, .int (nI fa)), (2, .int (nI cc)), (3, .int (nI na))]) o dX7_fewestSalts_138 (by decide) rfl ?_
                          refine z_lload (j := 3) o dX7_fewestSalts_140 rfl ?_
                          refine z_iload (j := 1) o dX7_fewestSalts_142 rfl ?_
                          refine z_callSi (As := [.long ((tr_p (A 83) fa na (A 83 0) (sp_np (A 83) fa)) &&& (N 1 5 ^^^ (-1))), .int (nI jq)]) (n := 2) (st := []) o dX7_fewestSalts_144 (c_X1_has hB M2 N ((tr_p (A 83) fa na (A 83 0) (sp_np (A 83) fa)) &&& (N 1 5 ^^^ (-1))) (nI jq)) zc_X7_139 (by decide) rfl rfl (Nat.le_of_ble_eq_true rfl) (fun r24 g25 p26 => ?_)
                          obtain ⟨rfl, rfl⟩ := p26
                          refine z_ifeq (tgt := 165) o dX7_fewestSalts_147 (by decide) (fun c27 => ?_) (fun c27 => ?_)
                          · have hno : sp_hadB (A 83) fa cc na (nI kq) (nI jq) = false := (had_b hok.1 hfa hltj (cell_n hlt) (tt_no hltj hsS c27)).trans (hsf kq hlt)
                            refine z_iinc (j := 1) (v := nI (jq + 1)) (lv2 := [(7, .int (nI (jq + 1))), (8, .long ((zlshl 1 (nI kq)) ||| (zlshl 1 (nI jq)))), (6, .int (nI kq)), (4, .long ((tr_p (A 83) fa na (A 83 0) (sp_np (A 83) fa)) &&& (N 1 5 ^^^ (-1)))), (0, zref B 0), (1, .int (nI fa)), (2, .int (nI cc)), (3, .int (nI na))]) o dX7_fewestSalts_165 rfl (zn_ofInt _) (by decide) rfl ?_
                            refine z_goto (tgt := 110) o dX7_fewestSalts_168 (by decide) ?_
                            refine zo_lv [0, 2, 3, 4, 5, 6, 7] rfl ?_
                            exact ih3 (jq + 1) (by omega) (by omega) _ hm2 (hF3.trans (sp_find_f hno))
                          · refine z_aload_n (j := 4) o dX7_fewestSalts_150 rfl ?_
                            refine z_iload_n (j := 5) o dX7_fewestSalts_151 rfl ?_
                            refine z_iload_n (j := 6) o dX7_fewestSalts_152 rfl ?_
                            refine z_iload_n (j := 7) o dX7_fewestSalts_153 rfl ?_
                            refine z_lload (j := 0) o dX7_fewestSalts_154 rfl ?_
                            refine z_callVi (As := [.int (nI fa), .int (nI cc), .int (nI na), .long ((zlshl 1 (nI kq)) ||| (zlshl 1 (nI jq)))]) (n := 4) (st := []) o dX7_fewestSalts_156 (c_X7_isInsideSalted hB M2 N A fa cc na (nI kq) (nI jq) ((zlshl 1 (nI kq)) ||| (zlshl 1 (nI jq))) (hR.few hm2) hok hfa hcc hna (cell_n hlt) (cell_n hltj) (by rw [← Int64.or_assoc]; exact (hsS.salt hlt).salt hltj)) zc_X7_297 (by decide) (i := 0) (by rw [hB]; exact zsh_lt rfl (by decide)) (zg_o rfl (by decide)) rfl rfl rfl (Nat.le_of_ble_eq_true rfl) (fun r28 g29 p30 => ?_)
                            obtain ⟨M31, rfl, hnM31, eM31⟩ := p30
                            have hwM31 : (∀ j, j < 53 ∨ 61 ≤ j → M31 j = M j) := fun j hj => (hnM31 j (by omega) (by omega)).trans (hm2 j hj)
                            cases hqM31 : sp_hadB (A 83) fa cc na (nI kq) (nI jq) with
                            | false =>
                              refine zo_rw (y := 0) (by rw [eM31, hqM31]; rfl) ?_
                              refine z_ifeq (tgt := 165) o dX7_fewestSalts_159 (by decide) (fun c32 => ?_) (fun c32 => ?_)
                              · refine z_iinc (j := 1) (v := nI (jq + 1)) (lv2 := [(7, .int (nI (jq + 1))), (8, .long ((zlshl 1 (nI kq)) ||| (zlshl 1 (nI jq)))), (6, .int (nI kq)), (4, .long ((tr_p (A 83) fa na (A 83 0) (sp_np (A 83) fa)) &&& (N 1 5 ^^^ (-1)))), (0, zref B 0), (1, .int (nI fa)), (2, .int (nI cc)), (3, .int (nI na))]) o dX7_fewestSalts_165 rfl (zn_ofInt _) (by decide) rfl ?_
                                refine z_goto (tgt := 110) o dX7_fewestSalts_168 (by decide) ?_
                                refine zo_lv [0, 2, 3, 4, 5, 6, 7] rfl ?_
                                exact ih3 (jq + 1) (by omega) (by omega) _ hwM31 (hF3.trans (sp_find_f hqM31))
                              · exact absurd c32 (by decide)
                            | true =>
                              refine zo_rw (y := 1) (by rw [eM31, hqM31]; rfl) ?_
                              refine z_ifeq (tgt := 165) o dX7_fewestSalts_159 (by decide) (fun c33 => ?_) (fun c33 => ?_)
                              · exact absurd c33 (by decide)
                              · refine z_lload (j := 0) o dX7_fewestSalts_162 rfl ?_
                                exact kret _ _ _ _ dX7_fewestSalts_164 ⟨M31, rfl, hwM31, by
                                  have esb : sp_sb (A 83) fa cc na kq = jq := hF3.trans (sp_find_t hqM31)
                                  have esab : sp_sab (A 83) fa cc na = kq := hF2.trans (sp_find_t (decide_eq_true (by rw [esb]; exact hltj)))
                                  unfold sp_few; rw [if_neg (by rw [hq0]; exact Bool.false_ne_true), hsa, if_neg (by decide), esab, if_pos hlt, esb]; rfl⟩
                  refine zo_lv [0, 1, 2, 3, 4, 5, 6] rfl ?_
                  exact LOOP3 (63 - kq) (kq + 1) (by omega) (by omega) M1 hm1 rfl
            refine zo_lv [0, 1, 2, 3, 4, 5] rfl ?_
            exact LOOP2 64 0 (by omega) M1 hm1 rfl
          · exact absurd c9 (nI_nlt (a := 64) (b := 64) (by omega) (by omega))
        | succ nq ih =>
          intro kq hkq M1 hm1 hF1
          have hlt : kq < 64 := by omega
          refine z_iload (j := 0) o dX7_fewestSalts_50 rfl ?_
          refine z_bipush (v := 64) o dX7_fewestSalts_52 (by decide) ?_
          refine z_icmpge (tgt := 94) o dX7_fewestSalts_54 (by decide) (fun c34 => ?_) (fun c34 => ?_)
          · exact absurd (nI_lt (a := kq) (b := 64) (by omega) (by omega)) c34
          · refine z_lload (j := 1) o dX7_fewestSalts_57 rfl ?_
            refine z_iload (j := 0) o dX7_fewestSalts_59 rfl ?_
            refine z_callSi (As := [.long ((tr_p (A 83) fa na (A 83 0) (sp_np (A 83) fa)) &&& (N 1 5 ^^^ (-1))), .int (nI kq)]) (n := 2) (st := []) o dX7_fewestSalts_61 (c_X1_has hB M1 N ((tr_p (A 83) fa na (A 83 0) (sp_np (A 83) fa)) &&& (N 1 5 ^^^ (-1))) (nI kq)) zc_X7_139 (by decide) rfl rfl (Nat.le_of_ble_eq_true rfl) (fun r35 g36 p37 => ?_)
            obtain ⟨rfl, rfl⟩ := p37
            refine z_ifeq (tgt := 88) o dX7_fewestSalts_64 (by decide) (fun c38 => ?_) (fun c38 => ?_)
            · have hno : sp_hadB (A 83) fa cc na (nI kq) (-1) = false := (had_a hok.1 hfa (by omega) cell_m (tt_no (by omega) hsS c38)).trans hq0
              refine z_iinc (j := 0) (v := nI (kq + 1)) (lv2 := [(6, .int (nI (kq + 1))), (4, .long ((tr_p (A 83) fa na (A 83 0) (sp_np (A 83) fa)) &&& (N 1 5 ^^^ (-1)))), (0, zref B 0), (1, .int (nI fa)), (2, .int (nI cc)), (3, .int (nI na))]) o dX7_fewestSalts_88 rfl (zn_ofInt _) (by decide) rfl ?_
              refine z_goto (tgt := 50) o dX7_fewestSalts_91 (by decide) ?_
              refine zo_lv [0, 1, 2, 3, 4, 5] rfl ?_
              exact ih (kq + 1) (by omega) _ hm1 (hF1.trans (sp_find_f hno))
            · refine z_aload_n (j := 2) o dX7_fewestSalts_67 rfl ?_
              refine z_iload_n (j := 3) o dX7_fewestSalts_68 rfl ?_
              refine z_iload_n (j := 4) o dX7_fewestSalts_69 rfl ?_
              refine z_iload_n (j := 5) o dX7_fewestSalts_70 rfl ?_
              refine z_iload (j := 0) o dX7_fewestSalts_71 rfl ?_
              refine z_callSl (As := [.int (nI kq)]) (n := 1) (st := [.int (nI na), .int (nI cc), .int (nI fa), zref B 0]) o dX7_fewestSalts_73 (c_X1_bit hB M1 N (nI kq)) zc_X7_133 (by decide) rfl rfl (Nat.le_of_ble_eq_true rfl) (fun r39 g40 p41 => ?_)
              obtain ⟨rfl, rfl⟩ := p41
              refine z_callVi (As := [.int (nI fa), .int (nI cc), .int (nI na), .long (zlshl 1 (nI kq))]) (n := 4) (st := []) o dX7_fewestSalts_76 (c_X7_isInsideSalted hB M1 N A fa cc na (nI kq) (-1) (zlshl 1 (nI kq)) (hR.few hm1) hok hfa hcc hna (cell_n (by omega)) cell_m (by unfold sp_salt; rw [salt1_m]; exact hsS.salt (by omega))) zc_X7_297 (by decide) (i := 0) (by rw [hB]; exact zsh_lt rfl (by decide)) (zg_o rfl (by decide)) rfl rfl rfl (Nat.le_of_ble_eq_true rfl) (fun r42 g43 p44 => ?_)
              obtain ⟨M45, rfl, hnM45, eM45⟩ := p44
              have hwM45 : (∀ j, j < 53 ∨ 61 ≤ j → M45 j = M j) := fun j hj => (hnM45 j (by omega) (by omega)).trans (hm1 j hj)
              cases hqM45 : sp_hadB (A 83) fa cc na (nI kq) (-1) with
              | false =>
                refine zo_rw (y := 0) (by rw [eM45, hqM45]; rfl) ?_
                refine z_ifeq (tgt := 88) o dX7_fewestSalts_79 (by decide) (fun c46 => ?_) (fun c46 => ?_)
                · refine z_iinc (j := 0) (v := nI (kq + 1)) (lv2 := [(6, .int (nI (kq + 1))), (4, .long ((tr_p (A 83) fa na (A 83 0) (sp_np (A 83) fa)) &&& (N 1 5 ^^^ (-1)))), (0, zref B 0), (1, .int (nI fa)), (2, .int (nI cc)), (3, .int (nI na))]) o dX7_fewestSalts_88 rfl (zn_ofInt _) (by decide) rfl ?_
                  refine z_goto (tgt := 50) o dX7_fewestSalts_91 (by decide) ?_
                  refine zo_lv [0, 1, 2, 3, 4, 5] rfl ?_
                  exact ih (kq + 1) (by omega) _ hwM45 (hF1.trans (sp_find_f hqM45))
                · exact absurd c46 (by decide)
              | true =>
                refine zo_rw (y := 1) (by rw [eM45, hqM45]; rfl) ?_
                refine z_ifeq (tgt := 88) o dX7_fewestSalts_79 (by decide) (fun c47 => ?_) (fun c47 => ?_)
                · exact absurd c47 (by decide)
                · refine z_iload (j := 0) o dX7_fewestSalts_82 rfl ?_
                  refine z_callSl (As := [.int (nI kq)]) (n := 1) (st := []) o dX7_fewestSalts_84 (c_X1_bit hB M45 N (nI kq)) zc_X7_133 (by decide) rfl rfl (Nat.le_of_ble_eq_true rfl) (fun r48 g49 p50 => ?_)
                  obtain ⟨rfl, rfl⟩ := p50
                  exact kret _ _ _ _ dX7_fewestSalts_87 ⟨M45, rfl, hwM45, by unfold sp_few; rw [if_neg (by rw [hq0]; exact Bool.false_ne_true), show sp_sa (A 83) fa cc na = kq from hF1.trans (sp_find_t hqM45), if_pos hlt]; rfl⟩
      refine zo_lv [0, 1, 2, 3, 4, 5] rfl ?_
      exact LOOP 64 0 (by omega) M4 hwM4 rfl
    · exact absurd c5 (by decide)
  | true =>
    refine zo_rw (y := 1) (by rw [eM4, hqM4]; rfl) ?_
    refine z_ifeq (tgt := 13) o dX7_fewestSalts_8 (by decide) (fun c51 => ?_) (fun c51 => ?_)
    · exact absurd c51 (by decide)
    · refine z_lconst (v := 0) o dX7_fewestSalts_11 (by decide) ?_
      exact kret _ _ _ _ dX7_fewestSalts_12 ⟨M4, rfl, hwM4, by unfold sp_few; rw [if_pos hqM4]⟩

