/-! the reference: what it answers to a call (4) -/
def sq_nmv (M : zM) (s i u j n : Int32) : Int32 := if zin s 0 3 = 0 then -1000000001 else if zin u 0 3 = 0 then -1000000001 else if M 87 (zn s) = 0 then -1000000002 else if M 87 (zn u) = 0 then -1000000002 else
  if M 87 (zn s) = M 87 (zn u) then (if n < 0 then -1000000001 else if i < 0 then -1000000001 else if j < 0 then -1000000001 else if M 88 (zn s) - i < n then -1000000001 else if M 88 (zn u) - j < n then -1000000001 else 0) else -1000000005
theorem sq_nmv_or (M : zM) (s i u j n : Int32) : sq_nmv M s i u j n = -1000000001 ∨ sq_nmv M s i u j n = -1000000002 ∨ sq_nmv M s i u j n = -1000000005 ∨ sq_nmv M s i u j n = 0 := by
  unfold sq_nmv
  (repeat' split) <;> simp
theorem nat_of_nn {x : Int32} (h : ¬ x < 0) : ∃ k : Nat, k < 2 ^ 31 ∧ x = nI k := by
  have h1 := zi_nlt h
  have h2 := x.toInt_lt
  have h0 : (0 : Int32).toInt = 0 := rfl
  obtain ⟨k, hk, e⟩ := zle_of (x := x) (n := 2 ^ 31 - 1) (by omega) (by omega) (by decide)
  exact ⟨k, by omega, e⟩
theorem fits_nat {a i n : Nat} (ha : a ≤ 24) (hi : i < 2 ^ 31) (hn : n < 2 ^ 31) (h : ¬ nI a - nI i < nI n) : i + n ≤ a := by
  have h1 := zi_nlt h
  have e2 : (nI n).toInt = n := nI_toInt hn
  have e3 : (nI a - nI i).toInt = (a : Int) - i := by
    rw [Int32.toInt_sub, nI_toInt (by omega), nI_toInt hi]
    exact Int.bmod_eq_of_le (by omega) (by omega)
  rw [e2, e3] at h1
  omega
theorem sq_nmv_0 {M : zM} {s i u j n : Int32} (hsh : zShOk M) (h : sq_nmv M s i u j n = 0) : ∃ sa ia oa ja na : Nat, s = nI sa ∧ i = nI ia ∧ u = nI oa ∧ j = nI ja ∧ n = nI na ∧ sa ≤ 3 ∧ oa ≤ 3 ∧ ia + na ≤ sh_n M sa ∧ ja + na ≤ sh_n M oa ∧ sh_n M sa ≤ 24 ∧ sh_n M oa ≤ 24 := by
  unfold sq_nmv at h
  by_cases h1 : zin s 0 3 = 0
  · rw [if_pos h1] at h; exact absurd h (by decide)
  rw [if_neg h1] at h
  by_cases h2 : zin u 0 3 = 0
  · rw [if_pos h2] at h; exact absurd h (by decide)
  rw [if_neg h2] at h
  obtain ⟨sa, hsa, rfl⟩ := zin_lit (n := 3) rfl (by decide) h1
  obtain ⟨oa, hoa, rfl⟩ := zin_lit (n := 3) rfl (by decide) h2
  rw [zn_nI (by omega), zn_nI (by omega)] at h
  by_cases h3 : M 87 sa = 0
  · rw [if_pos h3] at h; exact absurd h (by decide)
  rw [if_neg h3] at h
  by_cases h4 : M 87 oa = 0
  · rw [if_pos h4] at h; exact absurd h (by decide)
  rw [if_neg h4] at h
  by_cases h5 : M 87 sa = M 87 oa
  case neg => rw [if_neg h5] at h; exact absurd h (by decide)
  rw [if_pos h5] at h
  by_cases h6 : n < 0
  · rw [if_pos h6] at h; exact absurd h (by decide)
  rw [if_neg h6] at h
  by_cases h7 : i < 0
  · rw [if_pos h7] at h; exact absurd h (by decide)
  rw [if_neg h7] at h
  by_cases h8 : j < 0
  · rw [if_pos h8] at h; exact absurd h (by decide)
  rw [if_neg h8] at h
  obtain ⟨na, hna, rfl⟩ := nat_of_nn h6
  obtain ⟨ia, hia, rfl⟩ := nat_of_nn h7
  obtain ⟨ja, hja, rfl⟩ := nat_of_nn h8
  obtain ⟨e1, f1⟩ := sh_n2 hsh (s := sa) (by omega)
  obtain ⟨e2, f2⟩ := sh_n2 hsh (s := oa) (by omega)
  rw [e1, e2] at h
  by_cases h9 : nI (sh_n M sa) - nI ia < nI na
  · rw [if_pos h9] at h; exact absurd h (by decide)
  rw [if_neg h9] at h
  by_cases h10 : nI (sh_n M oa) - nI ja < nI na
  · rw [if_pos h10] at h; exact absurd h (by decide)
  exact ⟨sa, ia, oa, ja, na, rfl, rfl, rfl, rfl, rfl, hsa, hoa, fits_nat f1 hia hna h9, fits_nat f2 hja hna h10, f1, f2⟩
set_option maxHeartbeats 4000000 in
set_option maxRecDepth 100000 in
theorem c_X8_notMoved {B : zB} (hB : znn B = 95) (M : zM) (N : zN) (s i u j n : Int32) : zCi B (zg B M N) yX8_notMoved cX8_notMoved 7 (some .int) 2 [zref B 82, .int s, .int i, .int u, .int j, .int n] (fun r g' => g' = zg B M N ∧ r = sq_nmv M s i u j n) := by
  refine zCi_of (by decide +kernel) (Nat.le_of_ble_eq_true rfl) .int rfl (fun _ _ _ => rfl) ?_
  intro X o kret
  show zW X B (zg B M N) 0 [(0, zref B 82), (1, .int s), (2, .int i), (3, .int u), (4, .int j), (5, .int n)] []
  refine z_iload_n (j := 1) o dX8_notMoved_0 rfl ?_
  refine z_callSi (As := [.int s]) (n := 1) (st := []) o dX8_notMoved_1 (c_X8_isSheet hB M N s) zc_X8_227 (by decide) rfl rfl (Nat.le_of_ble_eq_true rfl) (fun r1 g2 p3 => ?_)
  obtain ⟨rfl, rfl⟩ := p3
  refine z_ifeq (tgt := 14) o dX8_notMoved_4 (by decide) (fun c4 => ?_) (fun c4 => ?_)
  · refine z_ldc (v := (-1000000001)) o dX8_notMoved_14 zk_X8_100 ?_
    exact kret _ _ _ _ dX8_notMoved_16 ⟨rfl, by unfold sq_nmv;  rw [if_pos c4]⟩
  · obtain ⟨sa, hsa, esa⟩ := zin_lit (n := 3) rfl (by decide) c4
    subst esa
    refine z_iload_n (j := 3) o dX8_notMoved_7 rfl ?_
    refine z_callSi (As := [.int u]) (n := 1) (st := []) o dX8_notMoved_8 (c_X8_isSheet hB M N u) zc_X8_227 (by decide) rfl rfl (Nat.le_of_ble_eq_true rfl) (fun r5 g6 p7 => ?_)
    obtain ⟨rfl, rfl⟩ := p7
    refine z_ifne (tgt := 17) o dX8_notMoved_11 (by decide) (fun c8 => ?_) (fun c8 => ?_)
    · obtain ⟨oa, hoa, eoa⟩ := zin_lit (n := 3) rfl (by decide) c8
      subst eoa
      refine z_aload_n (j := 0) o dX8_notMoved_17 rfl ?_
      refine zo_get (i := 82) o hB dX8_notMoved_18 zf_X8_22 rfl (by decide) rfl ?_
      refine z_iload_n (j := 1) o dX8_notMoved_21 rfl ?_
      refine zo_iald (i := 87) (j := sa) o hB dX8_notMoved_22 rfl (show sa < 4 by omega) (by decide) ?_
      refine z_ifeq (tgt := 35) o dX8_notMoved_23 (by decide) (fun c9 => ?_) (fun c9 => ?_)
      · refine z_ldc (v := (-1000000002)) o dX8_notMoved_35 zk_X8_218 ?_
        exact kret _ _ _ _ dX8_notMoved_37 ⟨rfl, by unfold sq_nmv; (try rw [zn_nI (n := sa) (by omega)]); (try rw [zn_nI (n := oa) (by omega)]); rw [if_neg c4, if_neg c8, if_pos c9]⟩
      · refine z_aload_n (j := 0) o dX8_notMoved_26 rfl ?_
        refine zo_get (i := 82) o hB dX8_notMoved_27 zf_X8_22 rfl (by decide) rfl ?_
        refine z_iload_n (j := 3) o dX8_notMoved_30 rfl ?_
        refine zo_iald (i := 87) (j := oa) o hB dX8_notMoved_31 rfl (show oa < 4 by omega) (by decide) ?_
        refine z_ifne (tgt := 38) o dX8_notMoved_32 (by decide) (fun c10 => ?_) (fun c10 => ?_)
        · refine z_aload_n (j := 0) o dX8_notMoved_38 rfl ?_
          refine zo_get (i := 82) o hB dX8_notMoved_39 zf_X8_22 rfl (by decide) rfl ?_
          refine z_iload_n (j := 1) o dX8_notMoved_42 rfl ?_
          refine zo_iald (i := 87) (j := sa) o hB dX8_notMoved_43 rfl (show sa < 4 by omega) (by decide) ?_
          refine z_aload_n (j := 0) o dX8_notMoved_44 rfl ?_
          refine zo_get (i := 82) o hB dX8_notMoved_45 zf_X8_22 rfl (by decide) rfl ?_
          refine z_iload_n (j := 3) o dX8_notMoved_48 rfl ?_
          refine zo_iald (i := 87) (j := oa) o hB dX8_notMoved_49 rfl (show oa < 4 by omega) (by decide) ?_
          refine z_icmpeq (tgt := 56) o dX8_notMoved_50 (by decide) (fun c11 => ?_) (fun c11 => ?_)
          · refine z_iload (j := 5) o dX8_notMoved_56 rfl ?_
            refine z_iflt (tgt := 101) o dX8_notMoved_58 (by decide) (fun c12 => ?_) (fun c12 => ?_)
            · refine z_iconst (v := 0) o dX8_notMoved_101 (by decide) ?_
              refine z_istore (i := 6) (lv2 := [(6, .int 0), (0, zref B 82), (1, .int (nI sa)), (2, .int i), (3, .int (nI oa)), (4, .int j), (5, .int n)]) o dX8_notMoved_102 (by decide) rfl ?_
              refine z_iload (j := 0) o dX8_notMoved_104 rfl ?_
              refine z_ifeq (tgt := 113) o dX8_notMoved_106 (by decide) (fun c13 => ?_) (fun c13 => ?_)
              · refine z_ldc (v := (-1000000001)) o dX8_notMoved_113 zk_X8_100 ?_
                exact kret _ _ _ _ dX8_notMoved_115 ⟨rfl, by unfold sq_nmv; (try rw [zn_nI (n := sa) (by omega)]); (try rw [zn_nI (n := oa) (by omega)]); rw [if_neg c4, if_neg c8, if_neg c9, if_neg c10, if_pos c11, if_pos c12]⟩
              · exact absurd c13 (by decide)
            · refine z_iload_n (j := 2) o dX8_notMoved_61 rfl ?_
              refine z_iflt (tgt := 101) o dX8_notMoved_62 (by decide) (fun c14 => ?_) (fun c14 => ?_)
              · refine z_iconst (v := 0) o dX8_notMoved_101 (by decide) ?_
                refine z_istore (i := 6) (lv2 := [(6, .int 0), (0, zref B 82), (1, .int (nI sa)), (2, .int i), (3, .int (nI oa)), (4, .int j), (5, .int n)]) o dX8_notMoved_102 (by decide) rfl ?_
                refine z_iload (j := 0) o dX8_notMoved_104 rfl ?_
                refine z_ifeq (tgt := 113) o dX8_notMoved_106 (by decide) (fun c15 => ?_) (fun c15 => ?_)
                · refine z_ldc (v := (-1000000001)) o dX8_notMoved_113 zk_X8_100 ?_
                  exact kret _ _ _ _ dX8_notMoved_115 ⟨rfl, by unfold sq_nmv; (try rw [zn_nI (n := sa) (by omega)]); (try rw [zn_nI (n := oa) (by omega)]); rw [if_neg c4, if_neg c8, if_neg c9, if_neg c10, if_pos c11, if_neg c12, if_pos c14]⟩
                · exact absurd c15 (by decide)
              · refine z_iload (j := 4) o dX8_notMoved_65 rfl ?_
                refine z_iflt (tgt := 101) o dX8_notMoved_67 (by decide) (fun c16 => ?_) (fun c16 => ?_)
                · refine z_iconst (v := 0) o dX8_notMoved_101 (by decide) ?_
                  refine z_istore (i := 6) (lv2 := [(6, .int 0), (0, zref B 82), (1, .int (nI sa)), (2, .int i), (3, .int (nI oa)), (4, .int j), (5, .int n)]) o dX8_notMoved_102 (by decide) rfl ?_
                  refine z_iload (j := 0) o dX8_notMoved_104 rfl ?_
                  refine z_ifeq (tgt := 113) o dX8_notMoved_106 (by decide) (fun c17 => ?_) (fun c17 => ?_)
                  · refine z_ldc (v := (-1000000001)) o dX8_notMoved_113 zk_X8_100 ?_
                    exact kret _ _ _ _ dX8_notMoved_115 ⟨rfl, by unfold sq_nmv; (try rw [zn_nI (n := sa) (by omega)]); (try rw [zn_nI (n := oa) (by omega)]); rw [if_neg c4, if_neg c8, if_neg c9, if_neg c10, if_pos c11, if_neg c12, if_neg c14, if_pos c16]⟩
                  · exact absurd c17 (by decide)
                · refine z_iload (j := 5) o dX8_notMoved_70 rfl ?_
                  refine z_aload_n (j := 0) o dX8_notMoved_72 rfl ?_
                  refine zo_get (i := 82) o hB dX8_notMoved_73 zf_X8_25 rfl (by decide) rfl ?_
                  refine z_iload_n (j := 1) o dX8_notMoved_76 rfl ?_
                  refine zo_iald (i := 88) (j := sa) o hB dX8_notMoved_77 rfl (show sa < 4 by omega) (by decide) ?_
                  refine z_iload_n (j := 2) o dX8_notMoved_78 rfl ?_
                  refine z_isub o dX8_notMoved_79 ?_
                  refine z_icmpgt (tgt := 101) o dX8_notMoved_80 (by decide) (fun c18 => ?_) (fun c18 => ?_)
                  · refine z_iconst (v := 0) o dX8_notMoved_101 (by decide) ?_
                    refine z_istore (i := 6) (lv2 := [(6, .int 0), (0, zref B 82), (1, .int (nI sa)), (2, .int i), (3, .int (nI oa)), (4, .int j), (5, .int n)]) o dX8_notMoved_102 (by decide) rfl ?_
                    refine z_iload (j := 0) o dX8_notMoved_104 rfl ?_
                    refine z_ifeq (tgt := 113) o dX8_notMoved_106 (by decide) (fun c19 => ?_) (fun c19 => ?_)
                    · refine z_ldc (v := (-1000000001)) o dX8_notMoved_113 zk_X8_100 ?_
                      exact kret _ _ _ _ dX8_notMoved_115 ⟨rfl, by unfold sq_nmv; (try rw [zn_nI (n := sa) (by omega)]); (try rw [zn_nI (n := oa) (by omega)]); rw [if_neg c4, if_neg c8, if_neg c9, if_neg c10, if_pos c11, if_neg c12, if_neg c14, if_neg c16, if_pos c18]⟩
                    · exact absurd c19 (by decide)
                  · refine z_iload (j := 5) o dX8_notMoved_83 rfl ?_
                    refine z_aload_n (j := 0) o dX8_notMoved_85 rfl ?_
                    refine zo_get (i := 82) o hB dX8_notMoved_86 zf_X8_25 rfl (by decide) rfl ?_
                    refine z_iload_n (j := 3) o dX8_notMoved_89 rfl ?_
                    refine zo_iald (i := 88) (j := oa) o hB dX8_notMoved_90 rfl (show oa < 4 by omega) (by decide) ?_
                    refine z_iload (j := 4) o dX8_notMoved_91 rfl ?_
                    refine z_isub o dX8_notMoved_93 ?_
                    refine z_icmpgt (tgt := 101) o dX8_notMoved_94 (by decide) (fun c20 => ?_) (fun c20 => ?_)
                    · refine z_iconst (v := 0) o dX8_notMoved_101 (by decide) ?_
                      refine z_istore (i := 6) (lv2 := [(6, .int 0), (0, zref B 82), (1, .int (nI sa)), (2, .int i), (3, .int (nI oa)), (4, .int j), (5, .int n)]) o dX8_notMoved_102 (by decide) rfl ?_
                      refine z_iload (j := 0) o dX8_notMoved_104 rfl ?_
                      refine z_ifeq (tgt := 113) o dX8_notMoved_106 (by decide) (fun c21 => ?_) (fun c21 => ?_)
                      · refine z_ldc (v := (-1000000001)) o dX8_notMoved_113 zk_X8_100 ?_
                        exact kret _ _ _ _ dX8_notMoved_115 ⟨rfl, by unfold sq_nmv; (try rw [zn_nI (n := sa) (by omega)]); (try rw [zn_nI (n := oa) (by omega)]); rw [if_neg c4, if_neg c8, if_neg c9, if_neg c10, if_pos c11, if_neg c12, if_neg c14, if_neg c16, if_neg c18, if_pos c20]⟩
                      · exact absurd c21 (by decide)
                    · refine z_iconst (v := 1) o dX8_notMoved_97 (by decide) ?_
                      refine z_goto (tgt := 102) o dX8_notMoved_98 (by decide) ?_
                      refine z_istore (i := 6) (lv2 := [(6, .int 1), (0, zref B 82), (1, .int (nI sa)), (2, .int i), (3, .int (nI oa)), (4, .int j), (5, .int n)]) o dX8_notMoved_102 (by decide) rfl ?_
                      refine z_iload (j := 0) o dX8_notMoved_104 rfl ?_
                      refine z_ifeq (tgt := 113) o dX8_notMoved_106 (by decide) (fun c22 => ?_) (fun c22 => ?_)
                      · exact absurd c22 (by decide)
                      · refine z_iconst (v := 0) o dX8_notMoved_109 (by decide) ?_
                        refine z_goto (tgt := 115) o dX8_notMoved_110 (by decide) ?_
                        exact kret _ _ _ _ dX8_notMoved_115 ⟨rfl, by unfold sq_nmv; (try rw [zn_nI (n := sa) (by omega)]); (try rw [zn_nI (n := oa) (by omega)]); rw [if_neg c4, if_neg c8, if_neg c9, if_neg c10, if_pos c11, if_neg c12, if_neg c14, if_neg c16, if_neg c18, if_neg c20]⟩
          · refine z_ldc (v := (-1000000005)) o dX8_notMoved_53 zk_X8_122 ?_
            exact kret _ _ _ _ dX8_notMoved_55 ⟨rfl, by unfold sq_nmv; (try rw [zn_nI (n := sa) (by omega)]); (try rw [zn_nI (n := oa) (by omega)]); rw [if_neg c4, if_neg c8, if_neg c9, if_neg c10, if_neg c11]⟩
        · refine z_ldc (v := (-1000000002)) o dX8_notMoved_35 zk_X8_218 ?_
          exact kret _ _ _ _ dX8_notMoved_37 ⟨rfl, by unfold sq_nmv; (try rw [zn_nI (n := sa) (by omega)]); (try rw [zn_nI (n := oa) (by omega)]); rw [if_neg c4, if_neg c8, if_neg c9, if_pos c10]⟩
    · refine z_ldc (v := (-1000000001)) o dX8_notMoved_14 zk_X8_100 ?_
      exact kret _ _ _ _ dX8_notMoved_16 ⟨rfl, by unfold sq_nmv; (try rw [zn_nI (n := sa) (by omega)]); rw [if_neg c4, if_pos c8]⟩

def sq_move (M : zM) (s : Int32) (i : Int32) (u : Int32) (j : Int32) (n : Int32) : Int32 × zM :=
  if sq_nmv M s i u j n = -1000000001 then (zE 1, zEr M 1) else if sq_nmv M s i u j n = -1000000002 then (zE 2, zEr M 2) else if sq_nmv M s i u j n = -1000000005 then (zE 5, zEr M 5) else
  (n, va_up M 89 (sp_mvc (M 89) (24 * zn s + zn i) (24 * zn u + zn j) (zn n) (decide (i < j)) (zn n)))
set_option maxHeartbeats 4000000 in
set_option maxRecDepth 100000 in
theorem c_X8_move {B : zB} (hB : znn B = 95) (M : zM) (N : zN) (s : Int32) (i : Int32) (u : Int32) (j : Int32) (n : Int32) (hsh : zShOk M) : zCi B (zg B M N) yX8_move cX8_move 9 (some .int) 5 [zref B 82, .int s, .int i, .int u, .int j, .int n] (fun r g' => g' = zg B (sq_move M s i u j n).2 N ∧ r = (sq_move M s i u j n).1) := by
  refine zCi_of (by decide +kernel) (Nat.le_of_ble_eq_true rfl) .int rfl (fun _ _ _ => rfl) ?_
  intro X o kret
  show zW X B (zg B M N) 0 [(0, zref B 82), (1, .int s), (2, .int i), (3, .int u), (4, .int j), (5, .int n)] []
  refine z_aload_n (j := 0) o dX8_move_0 rfl ?_
  refine z_iload_n (j := 1) o dX8_move_1 rfl ?_
  refine z_iload_n (j := 2) o dX8_move_2 rfl ?_
  refine z_iload_n (j := 3) o dX8_move_3 rfl ?_
  refine z_iload (j := 4) o dX8_move_4 rfl ?_
  refine z_iload (j := 5) o dX8_move_6 rfl ?_
  refine z_callVi (As := [.int s, .int i, .int u, .int j, .int n]) (n := 5) (st := []) o dX8_move_8 (c_X8_notMoved hB M N s i u j n) zc_X8_276 (by decide) (i := 82) (by rw [hB]; exact zsh_lt rfl (by decide)) (zg_o rfl (by decide)) rfl rfl rfl (Nat.le_of_ble_eq_true rfl) (fun r1 g2 p3 => ?_)
  obtain ⟨rfl, rfl⟩ := p3
  rcases sq_nmv_or M s i u j n with q1 | q1 | q1 | q1
  · refine zo_rw (y := (-1000000001)) q1 ?_
    refine z_istore (i := 6) (lv2 := [(6, .int (-1000000001)), (0, zref B 82), (1, .int s), (2, .int i), (3, .int u), (4, .int j), (5, .int n)]) o dX8_move_11 (by decide) rfl ?_
    refine z_iload (j := 0) o dX8_move_13 rfl ?_
    refine z_ifeq (tgt := 25) o dX8_move_15 (by decide) (fun c4 => ?_) (fun c4 => ?_)
    · exact absurd c4 (by decide)
    · refine z_aload_n (j := 1) o dX8_move_18 rfl ?_
      refine z_iload (j := 0) o dX8_move_19 rfl ?_
      refine z_callVi (As := [.int (-1000000001)]) (n := 1) (st := []) o dX8_move_21 (c_X8_error hB M N 1 (by omega)) zc_X8_101 (by decide) (i := 82) (by rw [hB]; exact zsh_lt rfl (by decide)) (zg_o rfl (by decide)) rfl rfl rfl (Nat.le_of_ble_eq_true rfl) (fun r5 g6 p7 => ?_)
      obtain ⟨rfl, rfl⟩ := p7
      exact kret _ _ _ _ dX8_move_24 ⟨by unfold sq_move; rw [q1]; rfl, by unfold sq_move; rw [q1]; rfl⟩
  · refine zo_rw (y := (-1000000002)) q1 ?_
    refine z_istore (i := 6) (lv2 := [(6, .int (-1000000002)), (0, zref B 82), (1, .int s), (2, .int i), (3, .int u), (4, .int j), (5, .int n)]) o dX8_move_11 (by decide) rfl ?_
    refine z_iload (j := 0) o dX8_move_13 rfl ?_
    refine z_ifeq (tgt := 25) o dX8_move_15 (by decide) (fun c8 => ?_) (fun c8 => ?_)
    · exact absurd c8 (by decide)
    · refine z_aload_n (j := 1) o dX8_move_18 rfl ?_
      refine z_iload (j := 0) o dX8_move_19 rfl ?_
      refine z_callVi (As := [.int (-1000000002)]) (n := 1) (st := []) o dX8_move_21 (c_X8_error hB M N 2 (by omega)) zc_X8_101 (by decide) (i := 82) (by rw [hB]; exact zsh_lt rfl (by decide)) (zg_o rfl (by decide)) rfl rfl rfl (Nat.le_of_ble_eq_true rfl) (fun r9 g10 p11 => ?_)
      obtain ⟨rfl, rfl⟩ := p11
      exact kret _ _ _ _ dX8_move_24 ⟨by unfold sq_move; rw [q1]; rfl, by unfold sq_move; rw [q1]; rfl⟩
  · refine zo_rw (y := (-1000000005)) q1 ?_
    refine z_istore (i := 6) (lv2 := [(6, .int (-1000000005)), (0, zref B 82), (1, .int s), (2, .int i), (3, .int u), (4, .int j), (5, .int n)]) o dX8_move_11 (by decide) rfl ?_
    refine z_iload (j := 0) o dX8_move_13 rfl ?_
    refine z_ifeq (tgt := 25) o dX8_move_15 (by decide) (fun c12 => ?_) (fun c12 => ?_)
    · exact absurd c12 (by decide)
    · refine z_aload_n (j := 1) o dX8_move_18 rfl ?_
      refine z_iload (j := 0) o dX8_move_19 rfl ?_
      refine z_callVi (As := [.int (-1000000005)]) (n := 1) (st := []) o dX8_move_21 (c_X8_error hB M N 5 (by omega)) zc_X8_101 (by decide) (i := 82) (by rw [hB]; exact zsh_lt rfl (by decide)) (zg_o rfl (by decide)) rfl rfl rfl (Nat.le_of_ble_eq_true rfl) (fun r13 g14 p15 => ?_)
      obtain ⟨rfl, rfl⟩ := p15
      exact kret _ _ _ _ dX8_move_24 ⟨by unfold sq_move; rw [q1]; rfl, by unfold sq_move; rw [q1]; rfl⟩
  · refine zo_rw (y := 0) q1 ?_
    obtain ⟨sa, ia, oa, ja, na, es, ei, eo, ej, en, hsa, hoa, hf1, hf2, hf3, hf4⟩ := sq_nmv_0 hsh q1
    subst es; subst ei; subst eo; subst ej; subst en
    rcases Nat.lt_or_ge ia ja with hij | hij
    · have hbk : decide (nI ia < nI ja) = true := decide_eq_true (nI_lt hij (by omega))
      refine z_istore (i := 6) (lv2 := [(6, .int 0), (0, zref B 82), (1, .int (nI sa)), (2, .int (nI ia)), (3, .int (nI oa)), (4, .int (nI ja)), (5, .int (nI na))]) o dX8_move_11 (by decide) rfl ?_
      refine z_iload (j := 0) o dX8_move_13 rfl ?_
      refine z_ifeq (tgt := 25) o dX8_move_15 (by decide) (fun c16 => ?_) (fun c16 => ?_)
      · refine z_iconst (v := 0) o dX8_move_25 (by decide) ?_
        refine z_istore (i := 7) (lv2 := [(7, .int 0), (6, .int 0), (0, zref B 82), (1, .int (nI sa)), (2, .int (nI ia)), (3, .int (nI oa)), (4, .int (nI ja)), (5, .int (nI na))]) o dX8_move_26 (by decide) rfl ?_
        have LOOP : ∀ nq kq : Nat, kq + nq = na → zW X B (zg B (va_up M 89 (sp_mvc (M 89) (24 * sa + ia) (24 * oa + ja) na true kq)) N) 28 [(7, .int (nI kq)), (0, zref B 82), (1, .int (nI sa)), (2, .int (nI ia)), (3, .int (nI oa)), (4, .int (nI ja)), (5, .int (nI na))] [] := by
          intro nq
          induction nq with
          | zero =>
            intro kq hkq
            have hz : kq = na := by omega
            refine z_iload (j := 0) o dX8_move_28 rfl ?_
            refine z_iload (j := 6) o dX8_move_30 rfl ?_
            refine z_icmpge (tgt := 90) o dX8_move_32 (by decide) (fun c17 => ?_) (fun c17 => ?_)
            · refine z_iload (j := 6) o dX8_move_90 rfl ?_
              exact kret _ _ _ _ dX8_move_92 ⟨by unfold sq_move; rw [q1, if_neg (by decide), if_neg (by decide), if_neg (by decide), hbk, zn_nI (n := sa) (by omega), zn_nI (n := ia) (by omega), zn_nI (n := oa) (by omega), zn_nI (n := ja) (by omega), zn_nI (n := na) (by omega), hz], by unfold sq_move; rw [q1]; rfl⟩
            · exact absurd c17 (nI_nlt (a := kq) (b := na) (by omega) (by omega))
          | succ nq ih =>
            intro kq hkq
            have hlt : kq < na := by omega
            refine z_iload (j := 0) o dX8_move_28 rfl ?_
            refine z_iload (j := 6) o dX8_move_30 rfl ?_
            refine z_icmpge (tgt := 90) o dX8_move_32 (by decide) (fun c18 => ?_) (fun c18 => ?_)
            · exact absurd (nI_lt (a := kq) (b := na) (by omega) (by omega)) c18
            · refine z_iload_n (j := 3) o dX8_move_35 rfl ?_
              refine z_iload (j := 5) o dX8_move_36 rfl ?_
              refine z_icmpge (tgt := 51) o dX8_move_38 (by decide) (fun c19 => ?_) (fun c19 => ?_)
              · exact absurd (nI_lt (a := ia) (b := ja) (by omega) (by omega)) c19
              · refine z_iload (j := 6) o dX8_move_41 rfl ?_
                refine z_iconst (v := 1) o dX8_move_43 (by decide) ?_
                refine z_isub o dX8_move_44 ?_
                refine zo_rw (y := nI (na - 1)) (zn_sub (rfl) (rfl) (by omega)) ?_
                refine z_iload (j := 0) o dX8_move_45 rfl ?_
                refine z_isub o dX8_move_47 ?_
                refine zo_rw (y := nI (na - 1 - kq)) (zn_sub (rfl) (rfl) (by omega)) ?_
                refine z_goto (tgt := 53) o dX8_move_48 (by decide) ?_
                refine z_istore (i := 8) (lv2 := [(8, .int (nI (na - 1 - kq))), (7, .int (nI kq)), (0, zref B 82), (1, .int (nI sa)), (2, .int (nI ia)), (3, .int (nI oa)), (4, .int (nI ja)), (5, .int (nI na))]) o dX8_move_53 (by decide) rfl ?_
                refine z_aload_n (j := 2) o dX8_move_55 rfl ?_
                refine zo_get (i := 82) o hB dX8_move_56 zf_X8_28 rfl (by decide) rfl ?_
                refine z_bipush (v := 24) o dX8_move_59 (by decide) ?_
                refine z_iload_n (j := 5) o dX8_move_61 rfl ?_
                refine z_imul o dX8_move_62 ?_
                refine zo_rw (y := nI (24 * oa)) (zn_mul (rfl) (rfl)) ?_
                refine z_iload (j := 6) o dX8_move_63 rfl ?_
                refine z_iadd o dX8_move_65 ?_
                refine zo_rw (y := nI (24 * oa + ja)) (zn_add (rfl) (rfl)) ?_
                refine z_iload (j := 0) o dX8_move_66 rfl ?_
                refine z_iadd o dX8_move_68 ?_
                refine zo_rw (y := nI (24 * oa + ja + (na - 1 - kq))) (zn_add (rfl) (rfl)) ?_
                refine z_aload_n (j := 2) o dX8_move_69 rfl ?_
                refine zo_get (i := 82) o hB dX8_move_70 zf_X8_28 rfl (by decide) rfl ?_
                refine z_bipush (v := 24) o dX8_move_73 (by decide) ?_
                refine z_iload_n (j := 3) o dX8_move_75 rfl ?_
                refine z_imul o dX8_move_76 ?_
                refine zo_rw (y := nI (24 * sa)) (zn_mul (rfl) (rfl)) ?_
                refine z_iload_n (j := 4) o dX8_move_77 rfl ?_
                refine z_iadd o dX8_move_78 ?_
                refine zo_rw (y := nI (24 * sa + ia)) (zn_add (rfl) (rfl)) ?_
                refine z_iload (j := 0) o dX8_move_79 rfl ?_
                refine z_iadd o dX8_move_81 ?_
                refine zo_rw (y := nI (24 * sa + ia + (na - 1 - kq))) (zn_add (rfl) (rfl)) ?_
                refine zo_iald (i := 89) (j := 24 * sa + ia + (na - 1 - kq)) o hB dX8_move_82 rfl (show 24 * sa + ia + (na - 1 - kq) < 96 by omega) (by decide) ?_
                refine zo_iast (i := 89) (j := 24 * oa + ja + (na - 1 - kq)) o hB dX8_move_83 rfl (show 24 * oa + ja + (na - 1 - kq) < 96 by omega) (by decide) ?_
                rw [zu_va]
                refine z_iinc (j := 1) (v := nI (kq + 1)) (lv2 := [(7, .int (nI (kq + 1))), (8, .int (nI (na - 1 - kq))), (0, zref B 82), (1, .int (nI sa)), (2, .int (nI ia)), (3, .int (nI oa)), (4, .int (nI ja)), (5, .int (nI na))]) o dX8_move_84 rfl (zn_ofInt _) (by decide) rfl ?_
                refine z_goto (tgt := 28) o dX8_move_87 (by decide) ?_
                refine zo_lv [0, 2, 3, 4, 5, 6, 7] rfl ?_
                exact ih (kq + 1) (by omega)
        refine zo_lv [0, 2, 3, 4, 5, 6, 7] rfl ?_
        have h0 := LOOP na 0 (by omega)
        rw [show va_up M 89 (sp_mvc (M 89) (24 * sa + ia) (24 * oa + ja) na true 0) = M from va_up_id M 89] at h0
        exact h0
      · exact absurd c16 (by decide)
    · have hbk : decide (nI ia < nI ja) = false := decide_eq_false (nI_nlt hij (by omega))
      refine z_istore (i := 6) (lv2 := [(6, .int 0), (0, zref B 82), (1, .int (nI sa)), (2, .int (nI ia)), (3, .int (nI oa)), (4, .int (nI ja)), (5, .int (nI na))]) o dX8_move_11 (by decide) rfl ?_
      refine z_iload (j := 0) o dX8_move_13 rfl ?_
      refine z_ifeq (tgt := 25) o dX8_move_15 (by decide) (fun c20 => ?_) (fun c20 => ?_)
      · refine z_iconst (v := 0) o dX8_move_25 (by decide) ?_
        refine z_istore (i := 7) (lv2 := [(7, .int 0), (6, .int 0), (0, zref B 82), (1, .int (nI sa)), (2, .int (nI ia)), (3, .int (nI oa)), (4, .int (nI ja)), (5, .int (nI na))]) o dX8_move_26 (by decide) rfl ?_
        have LOOP : ∀ nq kq : Nat, kq + nq = na → zW X B (zg B (va_up M 89 (sp_mvc (M 89) (24 * sa + ia) (24 * oa + ja) na false kq)) N) 28 [(7, .int (nI kq)), (0, zref B 82), (1, .int (nI sa)), (2, .int (nI ia)), (3, .int (nI oa)), (4, .int (nI ja)), (5, .int (nI na))] [] := by
          intro nq
          induction nq with
          | zero =>
            intro kq hkq
            have hz : kq = na := by omega
            refine z_iload (j := 0) o dX8_move_28 rfl ?_
            refine z_iload (j := 6) o dX8_move_30 rfl ?_
            refine z_icmpge (tgt := 90) o dX8_move_32 (by decide) (fun c21 => ?_) (fun c21 => ?_)
            · refine z_iload (j := 6) o dX8_move_90 rfl ?_
              exact kret _ _ _ _ dX8_move_92 ⟨by unfold sq_move; rw [q1, if_neg (by decide), if_neg (by decide), if_neg (by decide), hbk, zn_nI (n := sa) (by omega), zn_nI (n := ia) (by omega), zn_nI (n := oa) (by omega), zn_nI (n := ja) (by omega), zn_nI (n := na) (by omega), hz], by unfold sq_move; rw [q1]; rfl⟩
            · exact absurd c21 (nI_nlt (a := kq) (b := na) (by omega) (by omega))
          | succ nq ih =>
            intro kq hkq
            have hlt : kq < na := by omega
            refine z_iload (j := 0) o dX8_move_28 rfl ?_
            refine z_iload (j := 6) o dX8_move_30 rfl ?_
            refine z_icmpge (tgt := 90) o dX8_move_32 (by decide) (fun c22 => ?_) (fun c22 => ?_)
            · exact absurd (nI_lt (a := kq) (b := na) (by omega) (by omega)) c22
            · refine z_iload_n (j := 3) o dX8_move_35 rfl ?_
              refine z_iload (j := 5) o dX8_move_36 rfl ?_
              refine z_icmpge (tgt := 51) o dX8_move_38 (by decide) (fun c23 => ?_) (fun c23 => ?_)
              · refine z_iload (j := 0) o dX8_move_51 rfl ?_
                refine z_istore (i := 8) (lv2 := [(8, .int (nI kq)), (7, .int (nI kq)), (0, zref B 82), (1, .int (nI sa)), (2, .int (nI ia)), (3, .int (nI oa)), (4, .int (nI ja)), (5, .int (nI na))]) o dX8_move_53 (by decide) rfl ?_
                refine z_aload_n (j := 2) o dX8_move_55 rfl ?_
                refine zo_get (i := 82) o hB dX8_move_56 zf_X8_28 rfl (by decide) rfl ?_
                refine z_bipush (v := 24) o dX8_move_59 (by decide) ?_
                refine z_iload_n (j := 5) o dX8_move_61 rfl ?_
                refine z_imul o dX8_move_62 ?_
                refine zo_rw (y := nI (24 * oa)) (zn_mul (rfl) (rfl)) ?_
                refine z_iload (j := 6) o dX8_move_63 rfl ?_
                refine z_iadd o dX8_move_65 ?_
                refine zo_rw (y := nI (24 * oa + ja)) (zn_add (rfl) (rfl)) ?_
                refine z_iload (j := 0) o dX8_move_66 rfl ?_
                refine z_iadd o dX8_move_68 ?_
                refine zo_rw (y := nI (24 * oa + ja + kq)) (zn_add (rfl) (rfl)) ?_
                refine z_aload_n (j := 2) o dX8_move_69 rfl ?_
                refine zo_get (i := 82) o hB dX8_move_70 zf_X8_28 rfl (by decide) rfl ?_
                refine z_bipush (v := 24) o dX8_move_73 (by decide) ?_
                refine z_iload_n (j := 3) o dX8_move_75 rfl ?_
                refine z_imul o dX8_move_76 ?_
                refine zo_rw (y := nI (24 * sa)) (zn_mul (rfl) (rfl)) ?_
                refine z_iload_n (j := 4) o dX8_move_77 rfl ?_
                refine z_iadd o dX8_move_78 ?_
                refine zo_rw (y := nI (24 * sa + ia)) (zn_add (rfl) (rfl)) ?_
                refine z_iload (j := 0) o dX8_move_79 rfl ?_
                refine z_iadd o dX8_move_81 ?_
                refine zo_rw (y := nI (24 * sa + ia + kq)) (zn_add (rfl) (rfl)) ?_
                refine zo_iald (i := 89) (j := 24 * sa + ia + kq) o hB dX8_move_82 rfl (show 24 * sa + ia + kq < 96 by omega) (by decide) ?_
                refine zo_iast (i := 89) (j := 24 * oa + ja + kq) o hB dX8_move_83 rfl (show 24 * oa + ja + kq < 96 by omega) (by decide) ?_
                rw [zu_va]
                refine z_iinc (j := 1) (v := nI (kq + 1)) (lv2 := [(7, .int (nI (kq + 1))), (8, .int (nI kq)), (0, zref B 82), (1, .int (nI sa)), (2, .int (nI ia)), (3, .int (nI oa)), (4, .int (nI ja)), (5, .int (nI na))]) o dX8_move_84 rfl (zn_ofInt _) (by decide) rfl ?_
                refine z_goto (tgt := 28) o dX8_move_87 (by decide) ?_
                refine zo_lv [0, 2, 3, 4, 5, 6, 7] rfl ?_
                exact ih (kq + 1) (by omega)
              · exact absurd c23 (nI_nlt (a := ia) (b := ja) (by omega) (by omega))
        refine zo_lv [0, 2, 3, 4, 5, 6, 7] rfl ?_
        have h0 := LOOP na 0 (by omega)
        rw [show va_up M 89 (sp_mvc (M 89) (24 * sa + ia) (24 * oa + ja) na false 0) = M from va_up_id M 89] at h0
        exact h0
      · exact absurd c20 (by decide)

