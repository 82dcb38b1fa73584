/-! the reference: what it answers to a call (7) -/
def sq_odds (M : zM) (t : Int32) : Int32 × zM :=
  if zin t 0 1 = 0 then (zE 1, zEr M 1) else if t = 0 then (nI (sp_od 7 (lpop (sp_allin (M 83) (sp_nf (M 83)))) 64).1, M) else (nI (sp_od 7 (lpop (sp_allin (M 83) (sp_nf (M 83)))) 64).2, M)
set_option maxHeartbeats 4000000 in
set_option maxRecDepth 100000 in
theorem c_X8_odds {B : zB} (hB : znn B = 95) (M : zM) (N : zN) (t : Int32) (hok : zOkAll (M 83)) : zCi B (zg B M N) yX8_odds cX8_odds 6 (some .int) 5 [zref B 82, .int t] (fun r g' => ∃ M' : zM, g' = zg B M' N ∧ r = (sq_odds M t).1 ∧ zQ (sq_odds M t).2 M') := by
  refine zCi_of (by decide +kernel) (Nat.le_of_ble_eq_true rfl) .int rfl (fun _ _ _ => rfl) ?_
  intro X o kret
  show zW X B (zg B M N) 0 [(0, zref B 82), (1, .int t)] []
  obtain ⟨hnf, hnf4⟩ := ok_nf2 hok.1
  obtain ⟨hnc, hnc6⟩ := ok_nc2 hok.1
  refine z_iload_n (j := 1) o dX8_odds_0 rfl ?_
  refine z_iconst (v := 0) o dX8_odds_1 (by decide) ?_
  refine z_iconst (v := 1) o dX8_odds_2 (by decide) ?_
  refine z_callSi (As := [.int t, .int 0, .int 1]) (n := 3) (st := []) o dX8_odds_3 (c_X8_in hB M N t 0 1) zc_X8_51 (by decide) rfl rfl (Nat.le_of_ble_eq_true rfl) (fun r1 g2 p3 => ?_)
  obtain ⟨rfl, rfl⟩ := p3
  refine z_ifne (tgt := 16) o dX8_odds_6 (by decide) (fun c4 => ?_) (fun c4 => ?_)
  · refine z_lconst (v := 0) o dX8_odds_16 (by decide) ?_
    refine z_lstore_n (i := 2) (lv2 := [(2, .long 0), (0, zref B 82), (1, .int t)]) o dX8_odds_17 rfl (by decide) rfl ?_
    refine z_iconst (v := 0) o dX8_odds_18 (by decide) ?_
    refine z_istore (i := 4) (lv2 := [(4, .int 0), (2, .long 0), (0, zref B 82), (1, .int t)]) o dX8_odds_19 (by decide) rfl ?_
    have LOOP : ∀ nq kq : Nat, kq + nq = sp_nf (M 83) → zW X B (zg B M N) 21 [(4, .int (nI kq)), (2, .long (sp_allin (M 83) kq)), (0, zref B 82), (1, .int t)] [] := by
      intro nq
      induction nq with
      | zero =>
        intro kq hkkq
        have hqkq : sp_nf (M 83) = kq := by omega
        subst hqkq
        refine z_iload (j := 0) o dX8_odds_21 rfl ?_
        refine z_aload_n (j := 2) o dX8_odds_23 rfl ?_
        refine zo_get (i := 82) o hB dX8_odds_24 zf_X8_9 rfl (by decide) rfl ?_
        refine z_iconst (v := 2) o dX8_odds_27 (by decide) ?_
        refine zo_iald (i := 83) (j := 2) o hB dX8_odds_28 rfl (show 2 < 524 by omega) (by decide) ?_
        refine zo_rw (y := nI (sp_nf (M 83))) (hnf) ?_
        refine z_icmpge (tgt := 47) o dX8_odds_29 (by decide) (fun c5 => ?_) (fun c5 => ?_)
        · refine z_lload_n (j := 1) o dX8_odds_47 rfl ?_
          refine z_callSi (As := [.long (sp_allin (M 83) (sp_nf (M 83)))]) (n := 1) (st := []) o dX8_odds_48 (c_X8_bits hB M N (sp_allin (M 83) (sp_nf (M 83)))) zc_X8_88 (by decide) rfl rfl (Nat.le_of_ble_eq_true rfl) (fun r6 g7 p8 => ?_)
          obtain ⟨rfl, rfl⟩ := p8
          refine z_istore (i := 4) (lv2 := [(4, .int (nI (lpop (sp_allin (M 83) (sp_nf (M 83)))))), (2, .long (sp_allin (M 83) (sp_nf (M 83)))), (0, zref B 82), (1, .int t)]) o dX8_odds_51 (by decide) rfl ?_
          refine z_bipush (v := 64) o dX8_odds_53 (by decide) ?_
          refine z_istore (i := 5) (lv2 := [(5, .int 64), (4, .int (nI (lpop (sp_allin (M 83) (sp_nf (M 83)))))), (2, .long (sp_allin (M 83) (sp_nf (M 83)))), (0, zref B 82), (1, .int t)]) o dX8_odds_55 (by decide) rfl ?_
          have hp64 := lpop_le (sp_allin (M 83) (sp_nf (M 83)))
          have LOOP2 : ∀ nr ar br : Nat, br < 2 ^ nr → ar ≤ 64 → br ≤ 64 → sp_od 7 (lpop (sp_allin (M 83) (sp_nf (M 83)))) 64 = sp_od nr ar br → zW X B (zg B M N) 57 [(5, .int (nI br)), (4, .int (nI ar)), (2, .long (sp_allin (M 83) (sp_nf (M 83)))), (0, zref B 82), (1, .int t)] [] := by
            intro nr
            induction nr with
            | zero =>
              intro ar br hbr har hb64 hs
              have hs2 : sp_od 7 (lpop (sp_allin (M 83) (sp_nf (M 83)))) 64 = (ar, br) := hs
              refine z_iload (j := 1) o dX8_odds_57 rfl ?_
              refine z_iconst (v := 2) o dX8_odds_59 (by decide) ?_
              refine z_irem o dX8_odds_60 (by decide) ?_
              refine zo_rw (y := nI (ar % 2)) (zrem_nat (d := 2) rfl (by omega) (by decide) (by decide)) ?_
              refine z_ifne (tgt := 85) o dX8_odds_61 (by decide) (fun c9 => ?_) (fun c9 => ?_)
              · refine z_iload_n (j := 4) o dX8_odds_85 rfl ?_
                refine z_ifne (tgt := 94) o dX8_odds_86 (by decide) (fun c10 => ?_) (fun c10 => ?_)
                · refine z_iload (j := 0) o dX8_odds_94 rfl ?_
                  exact kret _ _ _ _ dX8_odds_96 ⟨_, rfl, by unfold sq_odds; rw [if_neg c4, if_neg c10] <;> (try rw [hs2]) <;> (try rfl), by unfold sq_odds; rw [if_neg c4, if_neg c10] <;> exact zQ.rf⟩
                · refine z_iload (j := 1) o dX8_odds_89 rfl ?_
                  refine z_goto (tgt := 96) o dX8_odds_91 (by decide) ?_
                  exact kret _ _ _ _ dX8_odds_96 ⟨_, rfl, by unfold sq_odds; rw [if_neg c4, if_pos c10] <;> (try rw [hs2]) <;> (try rfl), by unfold sq_odds; rw [if_neg c4, if_pos c10] <;> exact zQ.rf⟩
              · refine z_iload (j := 0) o dX8_odds_64 rfl ?_
                refine z_iconst (v := 1) o dX8_odds_66 (by decide) ?_
                refine z_icmple (tgt := 85) o dX8_odds_67 (by decide) (fun c11 => ?_) (fun c11 => ?_)
                · refine z_iload_n (j := 4) o dX8_odds_85 rfl ?_
                  refine z_ifne (tgt := 94) o dX8_odds_86 (by decide) (fun c12 => ?_) (fun c12 => ?_)
                  · refine z_iload (j := 0) o dX8_odds_94 rfl ?_
                    exact kret _ _ _ _ dX8_odds_96 ⟨_, rfl, by unfold sq_odds; rw [if_neg c4, if_neg c12] <;> (try rw [hs2]) <;> (try rfl), by unfold sq_odds; rw [if_neg c4, if_neg c12] <;> exact zQ.rf⟩
                  · refine z_iload (j := 1) o dX8_odds_89 rfl ?_
                    refine z_goto (tgt := 96) o dX8_odds_91 (by decide) ?_
                    exact kret _ _ _ _ dX8_odds_96 ⟨_, rfl, by unfold sq_odds; rw [if_neg c4, if_pos c12] <;> (try rw [hs2]) <;> (try rfl), by unfold sq_odds; rw [if_neg c4, if_pos c12] <;> exact zQ.rf⟩
                · exact absurd c11 (nI_nlt (a := 1) (b := br) (by omega) (by omega))
            | succ nr ih =>
              intro ar br hbr har hb64 hs
              have hs1 : sp_od 7 (lpop (sp_allin (M 83) (sp_nf (M 83)))) 64 = (if ar % 2 = 0 ∧ 1 < br then sp_od nr (ar / 2) (br / 2) else (ar, br)) := hs
              refine z_iload (j := 1) o dX8_odds_57 rfl ?_
              refine z_iconst (v := 2) o dX8_odds_59 (by decide) ?_
              refine z_irem o dX8_odds_60 (by decide) ?_
              refine zo_rw (y := nI (ar % 2)) (zrem_nat (d := 2) rfl (by omega) (by decide) (by decide)) ?_
              refine z_ifne (tgt := 85) o dX8_odds_61 (by decide) (fun c13 => ?_) (fun c13 => ?_)
              · have hs2 : sp_od 7 (lpop (sp_allin (M 83) (sp_nf (M 83)))) 64 = (ar, br) := by rw [hs1, if_neg (fun q => c13 (by rw [q.1]; rfl))]
                refine z_iload_n (j := 4) o dX8_odds_85 rfl ?_
                refine z_ifne (tgt := 94) o dX8_odds_86 (by decide) (fun c14 => ?_) (fun c14 => ?_)
                · refine z_iload (j := 0) o dX8_odds_94 rfl ?_
                  exact kret _ _ _ _ dX8_odds_96 ⟨_, rfl, by unfold sq_odds; rw [if_neg c4, if_neg c14] <;> (try rw [hs2]) <;> (try rfl), by unfold sq_odds; rw [if_neg c4, if_neg c14] <;> exact zQ.rf⟩
                · refine z_iload (j := 1) o dX8_odds_89 rfl ?_
                  refine z_goto (tgt := 96) o dX8_odds_91 (by decide) ?_
                  exact kret _ _ _ _ dX8_odds_96 ⟨_, rfl, by unfold sq_odds; rw [if_neg c4, if_pos c14] <;> (try rw [hs2]) <;> (try rfl), by unfold sq_odds; rw [if_neg c4, if_pos c14] <;> exact zQ.rf⟩
              · have hev : ar % 2 = 0 := (nI_eq (b := 0) (by omega) (by omega)).mp c13
                refine z_iload (j := 0) o dX8_odds_64 rfl ?_
                refine z_iconst (v := 1) o dX8_odds_66 (by decide) ?_
                refine z_icmple (tgt := 85) o dX8_odds_67 (by decide) (fun c15 => ?_) (fun c15 => ?_)
                · have hs2 : sp_od 7 (lpop (sp_allin (M 83) (sp_nf (M 83)))) 64 = (ar, br) := by rw [hs1, if_neg (fun q => c15 (nI_lt (a := 1) q.2 (by omega)))]
                  refine z_iload_n (j := 4) o dX8_odds_85 rfl ?_
                  refine z_ifne (tgt := 94) o dX8_odds_86 (by decide) (fun c16 => ?_) (fun c16 => ?_)
                  · refine z_iload (j := 0) o dX8_odds_94 rfl ?_
                    exact kret _ _ _ _ dX8_odds_96 ⟨_, rfl, by unfold sq_odds; rw [if_neg c4, if_neg c16] <;> (try rw [hs2]) <;> (try rfl), by unfold sq_odds; rw [if_neg c4, if_neg c16] <;> exact zQ.rf⟩
                  · refine z_iload (j := 1) o dX8_odds_89 rfl ?_
                    refine z_goto (tgt := 96) o dX8_odds_91 (by decide) ?_
                    exact kret _ _ _ _ dX8_odds_96 ⟨_, rfl, by unfold sq_odds; rw [if_neg c4, if_pos c16] <;> (try rw [hs2]) <;> (try rfl), by unfold sq_odds; rw [if_neg c4, if_pos c16] <;> exact zQ.rf⟩
                · have hb1 : 1 < br := (nI_ltI (a := 1) (by omega) (by omega)).mp c15
                  have hs2 : sp_od 7 (lpop (sp_allin (M 83) (sp_nf (M 83)))) 64 = sp_od nr (ar / 2) (br / 2) := by rw [hs1, if_pos ⟨hev, hb1⟩]
                  have hb2 : br / 2 < 2 ^ nr := by
                    have e2 : 2 ^ (nr + 1) = 2 * 2 ^ nr := by rw [Nat.pow_succ, Nat.mul_comm]
                    omega
                  refine z_iload (j := 1) o dX8_odds_70 rfl ?_
                  refine z_iconst (v := 2) o dX8_odds_72 (by decide) ?_
                  refine z_idiv o dX8_odds_73 (by decide) ?_
                  refine zo_rw (y := nI (ar / 2)) (pk_div (d := 2) (by omega) (by decide) (by decide)) ?_
                  refine z_istore (i := 4) (lv2 := [(4, .int (nI (ar / 2))), (5, .int (nI br)), (2, .long (sp_allin (M 83) (sp_nf (M 83)))), (0, zref B 82), (1, .int t)]) o dX8_odds_74 (by decide) rfl ?_
                  refine z_iload (j := 1) o dX8_odds_76 rfl ?_
                  refine z_iconst (v := 2) o dX8_odds_78 (by decide) ?_
                  refine z_idiv o dX8_odds_79 (by decide) ?_
                  refine zo_rw (y := nI (br / 2)) (pk_div (d := 2) (by omega) (by decide) (by decide)) ?_
                  refine z_istore (i := 5) (lv2 := [(5, .int (nI (br / 2))), (4, .int (nI (ar / 2))), (2, .long (sp_allin (M 83) (sp_nf (M 83)))), (0, zref B 82), (1, .int t)]) o dX8_odds_80 (by decide) rfl ?_
                  refine z_goto (tgt := 57) o dX8_odds_82 (by decide) ?_
                  refine zo_lv [0, 1, 2, 3, 4] rfl ?_
                  exact ih (ar / 2) (br / 2) hb2 (by omega) (by omega) hs2
          refine zo_lv [0, 1, 2, 3, 4] rfl ?_
          exact LOOP2 7 (lpop (sp_allin (M 83) (sp_nf (M 83)))) 64 (by decide) hp64 (by decide) rfl
        · exact absurd c5 (nI_nlt (a := sp_nf (M 83)) (b := sp_nf (M 83)) (by omega) (by omega))
      | succ nq ihkq =>
        intro kq hkkq
        have hlkq : kq < sp_nf (M 83) := by omega
        refine z_iload (j := 0) o dX8_odds_21 rfl ?_
        refine z_aload_n (j := 2) o dX8_odds_23 rfl ?_
        refine zo_get (i := 82) o hB dX8_odds_24 zf_X8_9 rfl (by decide) rfl ?_
        refine z_iconst (v := 2) o dX8_odds_27 (by decide) ?_
        refine zo_iald (i := 83) (j := 2) o hB dX8_odds_28 rfl (show 2 < 524 by omega) (by decide) ?_
        refine zo_rw (y := nI (sp_nf (M 83))) (hnf) ?_
        refine z_icmpge (tgt := 47) o dX8_odds_29 (by decide) (fun c17 => ?_) (fun c17 => ?_)
        · exact absurd (nI_lt (a := kq) (b := sp_nf (M 83)) (by omega) (by omega)) c17
        · refine z_lload_n (j := 1) o dX8_odds_32 rfl ?_
          refine z_aload_n (j := 2) o dX8_odds_33 rfl ?_
          refine z_iload (j := 0) o dX8_odds_34 rfl ?_
          refine z_callVl (As := [.int (nI kq)]) (n := 1) (st := [.long (sp_allin (M 83) kq)]) o dX8_odds_36 (c_X8_insideOf hB M N kq (by omega) hok.1) zc_X8_85 (by decide) (i := 82) (by rw [hB]; exact zsh_lt rfl (by decide)) (zg_o rfl (by decide)) rfl rfl rfl (Nat.le_of_ble_eq_true rfl) (fun r18 g19 p20 => ?_)
          obtain ⟨rfl, rfl⟩ := p20
          refine z_lor o dX8_odds_39 ?_
          refine z_lstore_n (i := 2) (lv2 := [(2, .long ((sp_allin (M 83) kq) ||| (sp_ins (M 83) kq))), (4, .int (nI kq)), (0, zref B 82), (1, .int t)]) o dX8_odds_40 rfl (by decide) rfl ?_
          refine z_iinc (j := 1) (v := nI (kq + 1)) (lv2 := [(4, .int (nI (kq + 1))), (2, .long ((sp_allin (M 83) kq) ||| (sp_ins (M 83) kq))), (0, zref B 82), (1, .int t)]) o dX8_odds_41 rfl (zn_ofInt _) (by decide) rfl ?_
          refine z_goto (tgt := 21) o dX8_odds_44 (by decide) ?_
          refine zo_lv [0, 1, 2, 3] rfl ?_
          exact ihkq (kq + 1) (by omega)
    exact LOOP (sp_nf (M 83)) 0 (by omega)
  · refine z_aload_n (j := 0) o dX8_odds_9 rfl ?_
    refine z_ldc (v := (-1000000001)) o dX8_odds_10 zk_X8_100 ?_
    refine z_callVi (As := [.int (-1000000001)]) (n := 1) (st := []) o dX8_odds_12 (c_X8_error hB M N 1 (by omega)) zc_X8_101 (by decide) (i := 82) (by rw [hB]; exact zsh_lt rfl (by decide)) (zg_o rfl (by decide)) rfl rfl rfl (Nat.le_of_ble_eq_true rfl) (fun r21 g22 p23 => ?_)
    obtain ⟨rfl, rfl⟩ := p23
    exact kret _ _ _ _ dX8_odds_15 ⟨_, rfl, by unfold sq_odds;  rw [if_pos c4] <;> (try rfl), by unfold sq_odds;  rw [if_pos c4] <;> exact zQ.rf⟩

def sq_feed (M : zM) (x : Int64) (n : Int32) : Int32 × zM :=
  if zin n 1 8 = 0 then (zE 1, zEr M 1) else if 60 < nI (sp_nt (M 83) + zn n) then (zE 4, zEr M 4) else (nI (sp_nt (M 83) + zn n), va_up M 83 (sp_fd (M 83) x (zn n)))
set_option maxHeartbeats 4000000 in
set_option maxRecDepth 100000 in
theorem c_X8_feed {B : zB} (hB : znn B = 95) (M : zM) (N : zN) (x : Int64) (n : Int32) (hok : zOkAll (M 83)) : zCi B (zg B M N) yX8_feed cX8_feed 5 (some .int) 5 [zref B 82, .long x, .int n] (fun r g' => g' = zg B (sq_feed M x n).2 N ∧ r = (sq_feed M x n).1) := by
  refine zCi_of (by decide +kernel) (Nat.le_of_ble_eq_true rfl) .int rfl (fun _ _ _ => rfl) ?_
  intro X o kret
  show zW X B (zg B M N) 0 [(0, zref B 82), (1, .long x), (3, .int n)] []
  obtain ⟨hnf, hnf4⟩ := ok_nf2 hok.1
  obtain ⟨hnc, hnc6⟩ := ok_nc2 hok.1
  obtain ⟨hnw, hnw24⟩ := ok_nw2 hok.1
  obtain ⟨hnt, hnt60⟩ := ok_nt2 hok.1
  refine z_iload_n (j := 2) o dX8_feed_0 rfl ?_
  refine z_iconst (v := 1) o dX8_feed_1 (by decide) ?_
  refine z_bipush (v := 8) o dX8_feed_2 (by decide) ?_
  refine z_callSi (As := [.int n, .int 1, .int 8]) (n := 3) (st := []) o dX8_feed_4 (c_X8_in hB M N n 1 8) zc_X8_51 (by decide) rfl rfl (Nat.le_of_ble_eq_true rfl) (fun r1 g2 p3 => ?_)
  obtain ⟨rfl, rfl⟩ := p3
  refine z_ifne (tgt := 17) o dX8_feed_7 (by decide) (fun c4 => ?_) (fun c4 => ?_)
  · obtain ⟨na, lna, hna, ena⟩ := zin_rng (lo := 1) (n := 8) rfl rfl (by decide) c4
    subst ena
    refine z_aload_n (j := 0) o dX8_feed_17 rfl ?_
    refine zo_get (i := 82) o hB dX8_feed_18 zf_X8_9 rfl (by decide) rfl ?_
    refine z_iconst (v := 4) o dX8_feed_21 (by decide) ?_
    refine zo_iald (i := 83) (j := 4) o hB dX8_feed_22 rfl (show 4 < 524 by omega) (by decide) ?_
    refine zo_rw (y := nI (sp_nt (M 83))) (hnt) ?_
    refine z_iload_n (j := 2) o dX8_feed_23 rfl ?_
    refine z_iadd o dX8_feed_24 ?_
    refine zo_rw (y := nI (sp_nt (M 83) + na)) (zn_add (rfl) (rfl)) ?_
    refine z_bipush (v := 60) o dX8_feed_25 (by decide) ?_
    refine z_icmple (tgt := 37) o dX8_feed_27 (by decide) (fun c5 => ?_) (fun c5 => ?_)
    · refine z_iconst (v := 0) o dX8_feed_37 (by decide) ?_
      refine z_istore (i := 4) (lv2 := [(4, .int 0), (0, zref B 82), (1, .long x), (3, .int (nI na))]) o dX8_feed_38 (by decide) rfl ?_
      have hfit : sp_nt (M 83) + na ≤ 60 := by
        rcases Nat.lt_or_ge 60 (sp_nt (M 83) + na) with q | q
        · exact absurd (nI_lt (a := 60) q (by omega)) c5
        · exact q
      have LOOP : ∀ nq kq : Nat, kq + nq = na → zW X B (zg B (va_up M 83 (sp_fd (M 83) x kq)) N) 40 [(4, .int (nI kq)), (0, zref B 82), (1, .long x), (3, .int (nI na))] [] := by
        intro nq
        induction nq with
        | zero =>
          intro kq hkq
          have hz : kq = na := by omega
          have e4 : sp_fd (M 83) x kq 4 = nI (sp_nt (M 83) + kq) := by
            cases kq with
            | zero => exact hnt
            | succ j => exact upd_self
          refine z_iload (j := 0) o dX8_feed_40 rfl ?_
          refine z_iload_n (j := 3) o dX8_feed_42 rfl ?_
          refine z_icmpge (tgt := 89) o dX8_feed_43 (by decide) (fun c6 => ?_) (fun c6 => ?_)
          · refine z_aload_n (j := 1) o dX8_feed_89 rfl ?_
            refine zo_get (i := 82) o hB dX8_feed_90 zf_X8_9 rfl (by decide) rfl ?_
            refine z_iconst (v := 4) o dX8_feed_93 (by decide) ?_
            refine zo_iald (i := 83) (j := 4) o hB dX8_feed_94 rfl (show 4 < 524 by omega) (by decide) ?_
            refine zo_rw (y := nI (sp_nt (M 83) + kq)) (by rw [va_up_self]; exact e4) ?_
            exact kret _ _ _ _ dX8_feed_95 ⟨by unfold sq_feed; (try rw [zn_nI (n := na) (by omega)]); rw [if_neg c4, if_neg c5] <;> (try rw [hz]), by unfold sq_feed; (try rw [zn_nI (n := na) (by omega)]); rw [if_neg c4, if_neg c5] <;> (try rw [hz])⟩
          · exact absurd c6 (nI_nlt (a := kq) (b := na) (by omega) (by omega))
        | succ nq ih =>
          intro kq hkq
          have hlt : kq < na := by omega
          have e4 : sp_fd (M 83) x kq 4 = nI (sp_nt (M 83) + kq) := by
            cases kq with
            | zero => exact hnt
            | succ j => exact upd_self
          refine z_iload (j := 0) o dX8_feed_40 rfl ?_
          refine z_iload_n (j := 3) o dX8_feed_42 rfl ?_
          refine z_icmpge (tgt := 89) o dX8_feed_43 (by decide) (fun c7 => ?_) (fun c7 => ?_)
          · exact absurd (nI_lt (a := kq) (b := na) (by omega) (by omega)) c7
          · refine z_aload_n (j := 1) o dX8_feed_46 rfl ?_
            refine zo_get (i := 82) o hB dX8_feed_47 zf_X8_9 rfl (by decide) rfl ?_
            refine z_sipush (v := 198) o dX8_feed_50 (by decide) ?_
            refine z_aload_n (j := 1) o dX8_feed_53 rfl ?_
            refine zo_get (i := 82) o hB dX8_feed_54 zf_X8_9 rfl (by decide) rfl ?_
            refine z_iconst (v := 4) o dX8_feed_57 (by decide) ?_
            refine zo_iald (i := 83) (j := 4) o hB dX8_feed_58 rfl (show 4 < 524 by omega) (by decide) ?_
            refine zo_rw (y := nI (sp_nt (M 83) + kq)) (by rw [va_up_self]; exact e4) ?_
            refine z_iadd o dX8_feed_59 ?_
            refine zo_rw (y := nI (198 + (sp_nt (M 83) + kq))) (zn_add (rfl) (rfl)) ?_
            refine z_lload_n (j := 2) o dX8_feed_60 rfl ?_
            refine z_bipush (v := 8) o dX8_feed_61 (by decide) ?_
            refine z_iload (j := 0) o dX8_feed_63 rfl ?_
            refine z_imul o dX8_feed_65 ?_
            refine zo_rw (y := nI (8 * kq)) (zn_mul (rfl) (rfl)) ?_
            refine z_lshr o dX8_feed_66 ?_
            refine z_ldc2 (v := 255) o dX8_feed_67 zk_X8_130 ?_
            refine z_land o dX8_feed_70 ?_
            refine z_l2i o dX8_feed_71 ?_
            refine zo_iast (i := 83) (j := 198 + (sp_nt (M 83) + kq)) o hB dX8_feed_72 rfl (show 198 + (sp_nt (M 83) + kq) < 524 by omega) (by decide) ?_
            rw [zu_va]
            refine z_aload_n (j := 1) o dX8_feed_73 rfl ?_
            refine zo_get (i := 82) o hB dX8_feed_74 zf_X8_9 rfl (by decide) rfl ?_
            refine z_iconst (v := 4) o dX8_feed_77 (by decide) ?_
            refine z_dup2 o dX8_feed_78 rfl rfl ?_
            refine zo_iald (i := 83) (j := 4) o hB dX8_feed_79 rfl (show 4 < 524 by omega) (by decide) ?_
            refine zo_rw (y := nI (sp_nt (M 83) + kq)) (by rw [va_up_self, upd_ne (by omega)]; exact e4) ?_
            refine z_iconst (v := 1) o dX8_feed_80 (by decide) ?_
            refine z_iadd o dX8_feed_81 ?_
            refine zo_rw (y := nI (sp_nt (M 83) + kq + 1)) (zn_add (rfl) (rfl)) ?_
            refine zo_iast (i := 83) (j := 4) o hB dX8_feed_82 rfl (show 4 < 524 by omega) (by decide) ?_
            rw [zu_va]
            refine z_iinc (j := 0) (v := nI (kq + 1)) (lv2 := [(4, .int (nI (kq + 1))), (0, zref B 82), (1, .long x), (3, .int (nI na))]) o dX8_feed_83 rfl (zn_ofInt _) (by decide) rfl ?_
            refine z_goto (tgt := 40) o dX8_feed_86 (by decide) ?_
            refine zo_lv [0, 1, 2, 3] rfl ?_
            exact ih (kq + 1) (by omega)
      refine zo_lv [0, 1, 2, 3] rfl ?_
      have h0 := LOOP na 0 (by omega)
      rw [show va_up M 83 (sp_fd (M 83) x 0) = M from va_up_id M 83] at h0
      exact h0
    · refine z_aload_n (j := 0) o dX8_feed_30 rfl ?_
      refine z_ldc (v := (-1000000004)) o dX8_feed_31 zk_X8_105 ?_
      refine z_callVi (As := [.int (-1000000004)]) (n := 1) (st := []) o dX8_feed_33 (c_X8_error hB M N 4 (by omega)) zc_X8_101 (by decide) (i := 82) (by rw [hB]; exact zsh_lt rfl (by decide)) (zg_o rfl (by decide)) rfl rfl rfl (Nat.le_of_ble_eq_true rfl) (fun r8 g9 p10 => ?_)
      obtain ⟨rfl, rfl⟩ := p10
      exact kret _ _ _ _ dX8_feed_36 ⟨by unfold sq_feed; (try rw [zn_nI (n := na) (by omega)]); rw [if_neg c4, if_pos c5] <;> (try rfl), by unfold sq_feed; (try rw [zn_nI (n := na) (by omega)]); rw [if_neg c4, if_pos c5] <;> (try rw [upv_ne (by omega)]) <;> (try rfl)⟩
  · refine z_aload_n (j := 0) o dX8_feed_10 rfl ?_
    refine z_ldc (v := (-1000000001)) o dX8_feed_11 zk_X8_100 ?_
    refine z_callVi (As := [.int (-1000000001)]) (n := 1) (st := []) o dX8_feed_13 (c_X8_error hB M N 1 (by omega)) zc_X8_101 (by decide) (i := 82) (by rw [hB]; exact zsh_lt rfl (by decide)) (zg_o rfl (by decide)) rfl rfl rfl (Nat.le_of_ble_eq_true rfl) (fun r11 g12 p13 => ?_)
    obtain ⟨rfl, rfl⟩ := p13
    exact kret _ _ _ _ dX8_feed_16 ⟨by unfold sq_feed;  rw [if_pos c4] <;> (try rfl), by unfold sq_feed;  rw [if_pos c4] <;> (try rw [upv_ne (by omega)]) <;> (try rfl)⟩

def sq_voice (M : zM) (f : Int32) (v : Int32) (x : Int32) : Int32 × zM :=
  if zin f 0 (M 83 2 - 1) = 0 then (zE 1, zEr M 1) else if zin v 0 3 = 0 then (zE 1, zEr M 1) else
  if v = 0 then ((vs_s (M 83 (6 + 13 * zn f + 0)) (zn f) x).1, vo_M M (vs_s (M 83 (6 + 13 * zn f + 0)) (zn f) x).2) else if v = 1 then ((vs_l (M 83 (6 + 13 * zn f + 0)) (M 83 (6 + 13 * zn f + 1)) (zn f) x).1, vo_M M (vs_l (M 83 (6 + 13 * zn f + 0)) (M 83 (6 + 13 * zn f + 1)) (zn f) x).2) else if v = 2 then ((vs_r (M 83 (6 + 13 * zn f + 0)) (M 83 (6 + 13 * zn f + 1)) (zn f) x).1, vo_M M (vs_r (M 83 (6 + 13 * zn f + 0)) (M 83 (6 + 13 * zn f + 1)) (zn f) x).2) else
  if vs_by (M 83 (6 + 13 * zn f + 1)) (zn f) = 0 then (zE 6, zEr (vo_M M (vs_p (M 83 (6 + 13 * zn f + 0)) (M 83 (6 + 13 * zn f + 1)) (zn f) x).2) 6) else ((vs_p (M 83 (6 + 13 * zn f + 0)) (M 83 (6 + 13 * zn f + 1)) (zn f) x).1, vo_M M (vs_p (M 83 (6 + 13 * zn f + 0)) (M 83 (6 + 13 * zn f + 1)) (zn f) x).2)
set_option maxHeartbeats 4000000 in
set_option maxRecDepth 100000 in
theorem c_X8_voice {B : zB} (hB : znn B = 95) (M : zM) (N : zN) (f : Int32) (v : Int32) (x : Int32) (hok : zOkAll (M 83)) : zCi B (zg B M N) yX8_voice cX8_voice 5 (some .int) 9 [zref B 82, .int f, .int v, .int x] (fun r g' => ∃ M' : zM, g' = zg B M' N ∧ r = (sq_voice M f v x).1 ∧ zQ (sq_voice M f v x).2 M') := by
  refine zCi_of (by decide +kernel) (Nat.le_of_ble_eq_true rfl) .int rfl (fun _ _ _ => rfl) ?_
  intro X o kret
  show zW X B (zg B M N) 0 [(0, zref B 82), (1, .int f), (2, .int v), (3, .int x)] []
  obtain ⟨hnf, hnf4⟩ := ok_nf2 hok.1
  obtain ⟨hnc, hnc6⟩ := ok_nc2 hok.1
  refine z_aload_n (j := 0) o dX8_voice_0 rfl ?_
  refine z_iload_n (j := 1) o dX8_voice_1 rfl ?_
  refine z_callVi (As := [.int f]) (n := 1) (st := []) o dX8_voice_2 (c_X8_isFence hB M N f) zc_X8_106 (by decide) (i := 82) (by rw [hB]; exact zsh_lt rfl (by decide)) (zg_o rfl (by decide)) rfl rfl rfl (Nat.le_of_ble_eq_true rfl) (fun r1 g2 p3 => ?_)
  obtain ⟨rfl, rfl⟩ := p3
  refine z_ifeq (tgt := 17) o dX8_voice_5 (by decide) (fun c4 => ?_) (fun c4 => ?_)
  · refine z_aload_n (j := 0) o dX8_voice_17 rfl ?_
    refine z_ldc (v := (-1000000001)) o dX8_voice_18 zk_X8_100 ?_
    refine z_callVi (As := [.int (-1000000001)]) (n := 1) (st := []) o dX8_voice_20 (c_X8_error hB M N 1 (by omega)) zc_X8_101 (by decide) (i := 82) (by rw [hB]; exact zsh_lt rfl (by decide)) (zg_o rfl (by decide)) rfl rfl rfl (Nat.le_of_ble_eq_true rfl) (fun r5 g6 p7 => ?_)
    obtain ⟨rfl, rfl⟩ := p7
    exact kret _ _ _ _ dX8_voice_23 ⟨_, rfl, by unfold sq_voice;  rw [if_pos c4] <;> (try rfl), by unfold sq_voice;  rw [if_pos c4] <;> exact zQ.rf⟩
  · have hzf := c4
    rw [hnf] at hzf
    obtain ⟨fa, hfa, efa⟩ := zin_nat (by omega) hzf
    subst efa
    refine z_iload_n (j := 2) o dX8_voice_8 rfl ?_
    refine z_iconst (v := 0) o dX8_voice_9 (by decide) ?_
    refine z_iconst (v := 3) o dX8_voice_10 (by decide) ?_
    refine z_callSi (As := [.int v, .int 0, .int 3]) (n := 3) (st := []) o dX8_voice_11 (c_X8_in hB M N v 0 3) zc_X8_51 (by decide) rfl rfl (Nat.le_of_ble_eq_true rfl) (fun r8 g9 p10 => ?_)
    obtain ⟨rfl, rfl⟩ := p10
    refine z_ifne (tgt := 24) o dX8_voice_14 (by decide) (fun c11 => ?_) (fun c11 => ?_)
    · refine z_aload_n (j := 0) o dX8_voice_24 rfl ?_
      refine z_iconst (v := 0) o dX8_voice_25 (by decide) ?_
      refine zo_put (i := 82) o hB dX8_voice_26 zp_X8_233 rfl (by decide) (by decide) (Nat.le_of_ble_eq_true rfl) ?_
      refine z_aload_n (j := 0) o dX8_voice_29 rfl ?_
      refine z_iconst (v := 0) o dX8_voice_30 (by decide) ?_
      refine zo_putz (i := 82) o hB dX8_voice_31 zp_X8_260 rfl (by decide) (by decide) (Nat.le_of_ble_eq_true rfl) (by decide) ?_
      refine z_iload_n (j := 2) o dX8_voice_34 rfl ?_
      refine z_ifne (tgt := 47) o dX8_voice_35 (by decide) (fun c12 => ?_) (fun c12 => ?_)
      · refine z_iload_n (j := 2) o dX8_voice_47 rfl ?_
        refine z_iconst (v := 1) o dX8_voice_48 (by decide) ?_
        refine z_icmpne (tgt := 61) o dX8_voice_49 (by decide) (fun c13 => ?_) (fun c13 => ?_)
        · refine z_iload_n (j := 2) o dX8_voice_61 rfl ?_
          refine z_iconst (v := 2) o dX8_voice_62 (by decide) ?_
          refine z_icmpne (tgt := 75) o dX8_voice_63 (by decide) (fun c14 => ?_) (fun c14 => ?_)
          · refine z_aload_n (j := 0) o dX8_voice_75 rfl ?_
            refine z_iload_n (j := 1) o dX8_voice_76 rfl ?_
            refine z_iload_n (j := 3) o dX8_voice_77 rfl ?_
            refine z_callVi (As := [.int (nI fa), .int x]) (n := 2) (st := []) o dX8_voice_78 (c_X8_parts hB (zu (zu M 82 18 0) 82 19 0) N (M 83) rfl 0 fa x (by omega) (by omega) (by rw [zu_at, upd_ne (by decide), zu_at, upd_self]; rfl)) zc_X8_269 (by decide) (i := 82) (by rw [hB]; exact zsh_lt rfl (by decide)) (zg_o rfl (by decide)) rfl rfl rfl (Nat.le_of_ble_eq_true rfl) (fun r15 g16 p17 => ?_)
            obtain ⟨rfl, rfl⟩ := p17
            refine z_istore (i := 4) (lv2 := [(4, .int ((vs_p (M 83 (6 + 13 * fa + 0)) (M 83 (6 + 13 * fa + 1)) fa x).1)), (0, zref B 82), (1, .int (nI fa)), (2, .int v), (3, .int x)]) o dX8_voice_81 (by decide) rfl ?_
            by_cases hby : vs_by (M 83 (6 + 13 * fa + 1)) fa = 0
            · refine z_aload_n (j := 1) o dX8_voice_83 rfl ?_
              refine zo_get (i := 82) o hB dX8_voice_84 zf_X8_260 rfl (by decide) rfl ?_
              refine zo_rw (y := 1) (by rw [zu_at, upd_self, if_pos hby]) ?_
              refine z_ifeq (tgt := 100) o dX8_voice_87 (by decide) (fun c18 => ?_) (fun c18 => ?_)
              · exact absurd c18 (by decide)
              · refine z_aload_n (j := 1) o dX8_voice_90 rfl ?_
                refine z_ldcw (v := (-1000000006)) o dX8_voice_91 zk_X8_272 ?_
                refine z_callVi (As := [.int (-1000000006)]) (n := 1) (st := []) o dX8_voice_94 (c_X8_error hB (zu (zVo (zu (zu M 82 18 0) 82 19 0) 0 (vs_p (M 83 (6 + 13 * fa + 0)) (M 83 (6 + 13 * fa + 1)) fa x).2) 82 19 (if vs_by (M 83 (6 + 13 * fa + 1)) fa = 0 then 1 else 0)) N 6 (by omega)) zc_X8_101 (by decide) (i := 82) (by rw [hB]; exact zsh_lt rfl (by decide)) (zg_o rfl (by decide)) rfl rfl rfl (Nat.le_of_ble_eq_true rfl) (fun r19 g20 p21 => ?_)
                obtain ⟨rfl, rfl⟩ := p21
                refine z_goto (tgt := 102) o dX8_voice_97 (by decide) ?_
                exact kret _ _ _ _ dX8_voice_102 ⟨_, rfl, by unfold sq_voice; (try rw [zn_nI (n := fa) (by omega)]); rw [if_neg c4, if_neg c11, if_neg c12, if_neg c13, if_neg c14, if_pos hby] <;> (try rfl), by unfold sq_voice; (try rw [zn_nI (n := fa) (by omega)]); rw [if_neg c4, if_neg c11, if_neg c12, if_neg c13, if_neg c14, if_pos hby] <;> exact (zQ.er zQ.vo)⟩
            · refine z_aload_n (j := 1) o dX8_voice_83 rfl ?_
              refine zo_get (i := 82) o hB dX8_voice_84 zf_X8_260 rfl (by decide) rfl ?_
              refine zo_rw (y := 0) (by rw [zu_at, upd_self, if_neg hby]) ?_
              refine z_ifeq (tgt := 100) o dX8_voice_87 (by decide) (fun c22 => ?_) (fun c22 => ?_)
              · refine z_iload (j := 0) o dX8_voice_100 rfl ?_
                exact kret _ _ _ _ dX8_voice_102 ⟨_, rfl, by unfold sq_voice; (try rw [zn_nI (n := fa) (by omega)]); rw [if_neg c4, if_neg c11, if_neg c12, if_neg c13, if_neg c14, if_neg hby] <;> (try rfl), by unfold sq_voice; (try rw [zn_nI (n := fa) (by omega)]); rw [if_neg c4, if_neg c11, if_neg c12, if_neg c13, if_neg c14, if_neg hby] <;> exact zQ.vo⟩
              · exact absurd c22 (by decide)
          · refine z_aload_n (j := 0) o dX8_voice_66 rfl ?_
            refine z_iload_n (j := 1) o dX8_voice_67 rfl ?_
            refine z_iload_n (j := 3) o dX8_voice_68 rfl ?_
            refine z_callVi (As := [.int (nI fa), .int x]) (n := 2) (st := []) o dX8_voice_69 (c_X8_sprouts hB (zu (zu M 82 18 0) 82 19 0) N (M 83) rfl 0 fa x (by omega) (by omega) (by rw [zu_at, upd_ne (by decide), zu_at, upd_self]; rfl)) zc_X8_266 (by decide) (i := 82) (by rw [hB]; exact zsh_lt rfl (by decide)) (zg_o rfl (by decide)) rfl rfl rfl (Nat.le_of_ble_eq_true rfl) (fun r23 g24 p25 => ?_)
            obtain ⟨rfl, rfl⟩ := p25
            refine z_goto (tgt := 81) o dX8_voice_72 (by decide) ?_
            refine z_istore (i := 4) (lv2 := [(4, .int ((vs_r (M 83 (6 + 13 * fa + 0)) (M 83 (6 + 13 * fa + 1)) fa x).1)), (0, zref B 82), (1, .int (nI fa)), (2, .int v), (3, .int x)]) o dX8_voice_81 (by decide) rfl ?_
            refine z_aload_n (j := 1) o dX8_voice_83 rfl ?_
            refine zo_get (i := 82) o hB dX8_voice_84 zf_X8_260 rfl (by decide) rfl ?_
            refine zo_rw (y := 0) (by rw [zVo_82, upd_ne (by decide), zu_at, upd_self]) ?_
            refine z_ifeq (tgt := 100) o dX8_voice_87 (by decide) (fun c26 => ?_) (fun c26 => ?_)
            · refine z_iload (j := 0) o dX8_voice_100 rfl ?_
              exact kret _ _ _ _ dX8_voice_102 ⟨_, rfl, by unfold sq_voice; (try rw [zn_nI (n := fa) (by omega)]); rw [if_neg c4, if_neg c11, if_neg c12, if_neg c13, if_pos c14] <;> (try rfl), by unfold sq_voice; (try rw [zn_nI (n := fa) (by omega)]); rw [if_neg c4, if_neg c11, if_neg c12, if_neg c13, if_pos c14] <;> exact zQ.vo0⟩
            · exact absurd c26 (by decide)
        · refine z_aload_n (j := 0) o dX8_voice_52 rfl ?_
          refine z_iload_n (j := 1) o dX8_voice_53 rfl ?_
          refine z_iload_n (j := 3) o dX8_voice_54 rfl ?_
          refine z_callVi (As := [.int (nI fa), .int x]) (n := 2) (st := []) o dX8_voice_55 (c_X8_leans hB (zu (zu M 82 18 0) 82 19 0) N (M 83) rfl 0 fa x (by omega) (by omega) (by rw [zu_at, upd_ne (by decide), zu_at, upd_self]; rfl)) zc_X8_254 (by decide) (i := 82) (by rw [hB]; exact zsh_lt rfl (by decide)) (zg_o rfl (by decide)) rfl rfl rfl (Nat.le_of_ble_eq_true rfl) (fun r27 g28 p29 => ?_)
          obtain ⟨rfl, rfl⟩ := p29
          refine z_goto (tgt := 81) o dX8_voice_58 (by decide) ?_
          refine z_istore (i := 4) (lv2 := [(4, .int ((vs_l (M 83 (6 + 13 * fa + 0)) (M 83 (6 + 13 * fa + 1)) fa x).1)), (0, zref B 82), (1, .int (nI fa)), (2, .int v), (3, .int x)]) o dX8_voice_81 (by decide) rfl ?_
          refine z_aload_n (j := 1) o dX8_voice_83 rfl ?_
          refine zo_get (i := 82) o hB dX8_voice_84 zf_X8_260 rfl (by decide) rfl ?_
          refine zo_rw (y := 0) (by rw [zVo_82, upd_ne (by decide), zu_at, upd_self]) ?_
          refine z_ifeq (tgt := 100) o dX8_voice_87 (by decide) (fun c30 => ?_) (fun c30 => ?_)
          · refine z_iload (j := 0) o dX8_voice_100 rfl ?_
            exact kret _ _ _ _ dX8_voice_102 ⟨_, rfl, by unfold sq_voice; (try rw [zn_nI (n := fa) (by omega)]); rw [if_neg c4, if_neg c11, if_neg c12, if_pos c13] <;> (try rfl), by unfold sq_voice; (try rw [zn_nI (n := fa) (by omega)]); rw [if_neg c4, if_neg c11, if_neg c12, if_pos c13] <;> exact zQ.vo0⟩
          · exact absurd c30 (by decide)
      · refine z_aload_n (j := 0) o dX8_voice_38 rfl ?_
        refine z_iload_n (j := 1) o dX8_voice_39 rfl ?_
        refine z_iload_n (j := 3) o dX8_voice_40 rfl ?_
        refine z_callVi (As := [.int (nI fa), .int x]) (n := 2) (st := []) o dX8_voice_41 (c_X8_sings hB (zu (zu M 82 18 0) 82 19 0) N (M 83) rfl 0 fa x (by omega) (by omega) (by rw [zu_at, upd_ne (by decide), zu_at, upd_self]; rfl)) zc_X8_245 (by decide) (i := 82) (by rw [hB]; exact zsh_lt rfl (by decide)) (zg_o rfl (by decide)) rfl rfl rfl (Nat.le_of_ble_eq_true rfl) (fun r31 g32 p33 => ?_)
        obtain ⟨rfl, rfl⟩ := p33
        refine z_goto (tgt := 81) o dX8_voice_44 (by decide) ?_
        refine z_istore (i := 4) (lv2 := [(4, .int ((vs_s (M 83 (6 + 13 * fa + 0)) fa x).1)), (0, zref B 82), (1, .int (nI fa)), (2, .int v), (3, .int x)]) o dX8_voice_81 (by decide) rfl ?_
        refine z_aload_n (j := 1) o dX8_voice_83 rfl ?_
        refine zo_get (i := 82) o hB dX8_voice_84 zf_X8_260 rfl (by decide) rfl ?_
        refine zo_rw (y := 0) (by rw [zVo_82, upd_ne (by decide), zu_at, upd_self]) ?_
        refine z_ifeq (tgt := 100) o dX8_voice_87 (by decide) (fun c34 => ?_) (fun c34 => ?_)
        · refine z_iload (j := 0) o dX8_voice_100 rfl ?_
          exact kret _ _ _ _ dX8_voice_102 ⟨_, rfl, by unfold sq_voice; (try rw [zn_nI (n := fa) (by omega)]); rw [if_neg c4, if_neg c11, if_pos c12] <;> (try rfl), by unfold sq_voice; (try rw [zn_nI (n := fa) (by omega)]); rw [if_neg c4, if_neg c11, if_pos c12] <;> exact zQ.vo0⟩
        · exact absurd c34 (by decide)
    · refine z_aload_n (j := 0) o dX8_voice_17 rfl ?_
      refine z_ldc (v := (-1000000001)) o dX8_voice_18 zk_X8_100 ?_
      refine z_callVi (As := [.int (-1000000001)]) (n := 1) (st := []) o dX8_voice_20 (c_X8_error hB M N 1 (by omega)) zc_X8_101 (by decide) (i := 82) (by rw [hB]; exact zsh_lt rfl (by decide)) (zg_o rfl (by decide)) rfl rfl rfl (Nat.le_of_ble_eq_true rfl) (fun r35 g36 p37 => ?_)
      obtain ⟨rfl, rfl⟩ := p37
      exact kret _ _ _ _ dX8_voice_23 ⟨_, rfl, by unfold sq_voice; (try rw [zn_nI (n := fa) (by omega)]); rw [if_neg c4, if_pos c11] <;> (try rfl), by unfold sq_voice; (try rw [zn_nI (n := fa) (by omega)]); rw [if_neg c4, if_pos c11] <;> exact zQ.rf⟩

