/-! the class: its calls (6) -/
theorem lb_shr {x : Int64} {c : Nat} (hc : c < 64) {i : Nat} (hi : c + i < 64) : lbit (zlshr x (nI c)) i = lbit x (c + i) := by
  show (x.toBitVec.sshiftRight' (((nI c).toInt64 &&& 63).toBitVec.smod 64)).getLsbD i = _
  rw [BitVec.getLsbD_sshiftRight', lb_shl_s c hc, if_pos hi, decide_eq_false (show ¬ 64 ≤ i by omega)]
  rfl
theorem lo8 (x : Int64) {i : Nat} (hi : i < 8) : x.toInt32.toInt8.toBitVec.getLsbD i = lbit x i := by
  show ((x.toBitVec.signExtend 32).signExtend 8).getLsbD i = x.toBitVec.getLsbD i
  rw [BitVec.getLsbD_signExtend, BitVec.getLsbD_signExtend, if_pos (show i < 32 by omega), if_pos (show i < 64 by omega), decide_eq_true hi, decide_eq_true (show i < 32 by omega)]
  rfl
theorem lb_255 : ∀ i, i < 8 → lbit 255 i = true := by decide +kernel
theorem to8_8 (x : Int32) : x.toInt8.toInt32.toInt8 = x.toInt8 := by
  apply Int8.toInt_inj.mp
  rw [Int32.toInt_toInt8, Int8.toInt_toInt32]
  have h1 := Int8.le_toInt x.toInt8
  have h2 := Int8.toInt_lt x.toInt8
  rw [Int.bmod_def]
  omega
theorem fd_byte (w : Int64) {k : Nat} (hk : k < 8) : vp_nar .byte ((zlushr w (nI (8 * k))).toInt32.toInt8.toInt32) = ((zlshr w (nI (8 * k)) &&& 255).toInt32).toInt8.toInt32 := by
  rw [vp_nar_byte, to8_8]
  congr 1
  apply Int8.toBitVec_inj.mp
  apply BitVec.eq_of_getLsbD_eq
  intro i hi
  rw [lo8 _ hi, lo8 _ hi, lb_ushr (by omega), lbit_and, lb_255 i hi, lb_shr (by omega) (by omega), Bool.and_true]
set_option maxHeartbeats 4000000 in
set_option maxRecDepth 100000 in
theorem k_loose {B : zB} (hB : znn B = 95) (M : zM) (N : zN) (A : zM) (n : Int32) (hR : zRl M N A) (hok : zOkAll (A 83)) : zCi B (zg B M N) yX7_loose cX7_loose 3 (some .int) 7 [zref B 0, .int n] (fun r g' => ∃ (M1 : zM) (N1 : zN), g' = zg B M1 N1 ∧ r = (sq_loose A n).1 ∧ zRl M1 N1 (sq_loose A n).2 ∧ zHi M M1) := by
  refine zCi_of (by decide +kernel) (Nat.le_of_ble_eq_true rfl) .int rfl (fun _ _ _ => rfl) ?_
  intro X o kret
  show zW X B (zg B M N) 0 [(0, zref B 0), (1, .int n)] []
  obtain ⟨hnf, hnf4⟩ := ok_nf2 hok.1
  obtain ⟨hnc, hnc6⟩ := ok_nc2 hok.1
  obtain ⟨hnt, hnt60⟩ := ok_nt2 hok.1
  obtain ⟨hnw, hnw24⟩ := ok_nw2 hok.1
  have hF : ∀ i, i < 4 → zFn (9 + 2 * i) M (A 83) i := fun i hi => hR.1.2.1 i hi
  refine z_iload_n (j := 1) o dX7_loose_0 rfl ?_
  refine z_iconst (v := 1) o dX7_loose_1 (by decide) ?_
  refine z_icmplt (tgt := 11) o dX7_loose_2 (by decide) (fun c1 => ?_) (fun c1 => ?_)
  · refine z_aload_n (j := 0) o dX7_loose_11 rfl ?_
    refine z_iconst (v := 1) o dX7_loose_12 (by decide) ?_
    refine z_callVi (As := [.int 1]) (n := 1) (st := []) o dX7_loose_13 (c_X7_error hB M N 1 (by decide) (by decide)) zc_X7_54 (by decide) (i := 0) (by rw [hB]; exact zsh_lt rfl (by decide)) (zg_o rfl (by decide)) rfl rfl rfl (Nat.le_of_ble_eq_true rfl) (fun r2 g3 p4 => ?_)
    obtain ⟨rfl, rfl⟩ := p4
    have hS : sq_loose A n = ((zE 1), zEr A 1) := by
      unfold sq_loose;  rw [if_pos (zin_lo c1)] <;> (try rfl)
    exact kret _ _ _ _ dX7_loose_16 ⟨zu M 73 1 (M 73 1 + 1), N, rfl, by rw [hS], by rw [hS]; exact (hR).er (k := 1) (by decide), ((zHi.rf (M := M))).zu (by decide)⟩
  · refine z_iload_n (j := 1) o dX7_loose_5 rfl ?_
    refine z_bipush (v := 20) o dX7_loose_6 (by decide) ?_
    refine z_icmple (tgt := 17) o dX7_loose_8 (by decide) (fun c5 => ?_) (fun c5 => ?_)
    · obtain ⟨na, lna, hna, ena⟩ := zin_rng (lo := 1) (n := 20) rfl rfl (by decide) (zin_in c1 c5)
      subst ena
      refine z_aload_n (j := 0) o dX7_loose_17 rfl ?_
      refine zo_get (i := 0) o hB dX7_loose_18 zf_X7_10 rfl (by decide) (rfl) ?_
      refine zo_get (i := 1) o hB dX7_loose_21 zf_X7_116 rfl (by decide) (rfl) ?_
      refine zo_rw (y := A 83 0) (hR.1.1.2.2.1) ?_
      refine z_iload_n (j := 1) o dX7_loose_24 rfl ?_
      refine z_iadd o dX7_loose_25 ?_
      refine z_sipush (v := 9999) o dX7_loose_26 (by decide) ?_
      refine z_icmple (tgt := 38) o dX7_loose_29 (by decide) (fun c6 => ?_) (fun c6 => ?_)
      · refine z_iconst (v := 0) o dX7_loose_38 (by decide) ?_
        refine z_istore_n (i := 2) (lv2 := [(2, .int 0), (0, zref B 0), (1, .int (nI na))]) o dX7_loose_39 rfl (by decide) rfl ?_
        have LOOP : ∀ nq kq : Nat, kq + nq = na → ∀ (M1 : zM) (N1 : zN), zFr 1 M M1 → zFrN 1 N N1 → zRg 1 M1 N1 (sp_drawnN (A 83) kq) → zW X B (zg B M1 N1) 40 [(2, .int (nI kq)), (0, zref B 0), (1, .int (nI na))] [] := by
          intro nq
          induction nq with
          | zero =>
            intro kq hkq M1 N1 h1 h1n hg1
            obtain rfl : kq = na := by omega
            have ecn := cnt_bits hg1.2.2.2.1 (ok_bits (okA_drawnN hok kq).1 (Or.inl rfl))
            refine z_iload_n (j := 0) o dX7_loose_40 rfl ?_
            refine z_iload_n (j := 2) o dX7_loose_41 rfl ?_
            refine z_icmpge (tgt := 66) o dX7_loose_42 (by decide) (fun c7 => ?_) (fun c7 => ?_)
            · refine z_aload_n (j := 1) o dX7_loose_66 rfl ?_
              refine zo_get (i := 0) o hB dX7_loose_67 zf_X7_10 rfl (by decide) (rfl) ?_
              refine zo_get (i := 1) o hB dX7_loose_70 zf_X7_126 rfl (by decide) (rfl) ?_
              refine z_callSi (As := [.long (N1 1 5)]) (n := 1) (st := []) o dX7_loose_73 (c_J13_bitCount hB M1 N1 (N1 1 5)) zc_X7_102 (by decide) rfl rfl (Nat.le_of_ble_eq_true rfl) (fun r8 g9 p10 => ?_)
              obtain ⟨rfl, rfl⟩ := p10
              have hS : sq_loose A (nI kq) = ((nI (lpop (N1 1 5))), va_up A 83 (sp_drawnN (A 83) kq)) := by
                unfold sq_loose; (try rw [zn_nI (n := kq) (by omega)]); rw [if_neg (zin_in c1 c5), if_neg c6, ← ecn] <;> (try rfl)
              exact kret _ _ _ _ dX7_loose_76 ⟨M1, N1, rfl, by rw [hS], by rw [hS]; exact hR.now hg1 (fun j hj => h1 j (by omega)) (fun j hj => h1n j (by omega)), (zHi.rf (M := M)).fr h1 (by decide)⟩
            · exact absurd c7 (nI_nlt (a := kq) (b := kq) (by omega) (by omega))
          | succ nq ih =>
            intro kq hkq M1 N1 h1 h1n hg1
            have hlt : kq < na := by omega
            refine z_iload_n (j := 0) o dX7_loose_40 rfl ?_
            refine z_iload_n (j := 2) o dX7_loose_41 rfl ?_
            refine z_icmpge (tgt := 66) o dX7_loose_42 (by decide) (fun c11 => ?_) (fun c11 => ?_)
            · exact absurd (nI_lt (a := kq) (b := na) (by omega) (by omega)) c11
            · refine z_aload_n (j := 1) o dX7_loose_45 rfl ?_
              refine zo_get (i := 0) o hB dX7_loose_46 zf_X7_10 rfl (by decide) (rfl) ?_
              refine z_callVv (As := []) (n := 0) (st := []) o dX7_loose_49 (c_X3_strayByDraws hB M1 N1 1 (sp_drawnN (A 83) kq) rfl (okA_drawnN hok kq) hg1) zc_X7_204 (by decide) (i := 1) (by rw [hB]; exact zsh_lt rfl (by decide)) (zg_o rfl (by decide)) rfl rfl rfl (Nat.le_of_ble_eq_true rfl) (fun g13 p14 => ?_)
              obtain ⟨M15, NM15, rfl, fM15, fnM15, gM15⟩ := p14
              refine z_aload_n (j := 1) o dX7_loose_52 rfl ?_
              refine zo_get (i := 0) o hB dX7_loose_53 zf_X7_10 rfl (by decide) (rfl) ?_
              refine z_iconst (v := 1) o dX7_loose_56 (by decide) ?_
              refine z_callVv (As := [.int 1]) (n := 1) (st := []) o dX7_loose_57 (c_X3_dawnsCome hB M15 NM15 1 1 (sp_stray (sp_drawnN (A 83) kq)) rfl (okA_stray (okA_drawnN hok kq)) gM15 (by decide)) zc_X7_200 (by decide) (i := 1) (by rw [hB]; exact zsh_lt rfl (by decide)) (zg_o rfl (by decide)) rfl rfl rfl (Nat.le_of_ble_eq_true rfl) (fun g17 p18 => ?_)
              obtain ⟨M19, NM19, rfl, fM19, fnM19, gM19⟩ := p18
              refine z_iinc (j := 0) (v := nI (kq + 1)) (lv2 := [(2, .int (nI (kq + 1))), (0, zref B 0), (1, .int (nI na))]) o dX7_loose_60 rfl (zn_ofInt _) (by decide) rfl ?_
              refine z_goto (tgt := 40) o dX7_loose_63 (by decide) ?_
              refine zo_lv [0, 1, 2] rfl ?_
              exact ih (kq + 1) (by omega) _ _ ((h1.tr fM15).tr fM19) (fun j hj => by rw [fnM19 j hj, fnM15 j hj]; exact h1n j hj) gM19
        refine zo_lv [0, 1, 2] rfl ?_
        exact LOOP na 0 (by omega) M N zFr.rf (fun _ _ => rfl) hR.1
      · refine z_aload_n (j := 0) o dX7_loose_32 rfl ?_
        refine z_iconst (v := 3) o dX7_loose_33 (by decide) ?_
        refine z_callVi (As := [.int 3]) (n := 1) (st := []) o dX7_loose_34 (c_X7_error hB M N 3 (by decide) (by decide)) zc_X7_54 (by decide) (i := 0) (by rw [hB]; exact zsh_lt rfl (by decide)) (zg_o rfl (by decide)) rfl rfl rfl (Nat.le_of_ble_eq_true rfl) (fun r20 g21 p22 => ?_)
        obtain ⟨rfl, rfl⟩ := p22
        have hS : sq_loose A (nI na) = ((zE 3), zEr A 3) := by
          unfold sq_loose; (try rw [zn_nI (n := na) (by omega)]); rw [if_neg (zin_in c1 c5), if_pos c6] <;> (try rfl)
        exact kret _ _ _ _ dX7_loose_37 ⟨zu M 73 3 (M 73 3 + 1), N, rfl, by rw [hS], by rw [hS]; exact (hR).er (k := 3) (by decide), ((zHi.rf (M := M))).zu (by decide)⟩
    · refine z_aload_n (j := 0) o dX7_loose_11 rfl ?_
      refine z_iconst (v := 1) o dX7_loose_12 (by decide) ?_
      refine z_callVi (As := [.int 1]) (n := 1) (st := []) o dX7_loose_13 (c_X7_error hB M N 1 (by decide) (by decide)) zc_X7_54 (by decide) (i := 0) (by rw [hB]; exact zsh_lt rfl (by decide)) (zg_o rfl (by decide)) rfl rfl rfl (Nat.le_of_ble_eq_true rfl) (fun r23 g24 p25 => ?_)
      obtain ⟨rfl, rfl⟩ := p25
      have hS : sq_loose A n = ((zE 1), zEr A 1) := by
        unfold sq_loose;  rw [if_pos (zin_hi c5)] <;> (try rfl)
      exact kret _ _ _ _ dX7_loose_16 ⟨zu M 73 1 (M 73 1 + 1), N, rfl, by rw [hS], by rw [hS]; exact (hR).er (k := 1) (by decide), ((zHi.rf (M := M))).zu (by decide)⟩

theorem fd_4 {ρ : Nat → Int32} {w : Int64} (h : ρ 4 = nI (sp_nt ρ)) : ∀ k, sp_fd ρ w k 4 = nI (sp_nt ρ + k)
  | 0 => h
  | k + 1 => by show upd _ 4 _ 4 = _; rw [upd_self]; rfl
set_option maxHeartbeats 4000000 in
set_option maxRecDepth 100000 in
theorem k_feed {B : zB} (hB : znn B = 95) (M : zM) (N : zN) (A : zM) (x : Int64) (n : Int32) (hR : zRl M N A) (hok : zOkAll (A 83)) : zCi B (zg B M N) yX7_feed cX7_feed 5 (some .int) 1 [zref B 0, .long x, .int n] (fun r g' => ∃ (M1 : zM) (N1 : zN), g' = zg B M1 N1 ∧ r = (sq_feed A x n).1 ∧ zRl M1 N1 (sq_feed A x n).2 ∧ zHi M M1) := by
  refine zCi_of (by decide +kernel) (Nat.le_of_ble_eq_true rfl) .int rfl (fun _ _ _ => rfl) ?_
  intro X o kret
  show zW X B (zg B M N) 0 [(0, zref B 0), (1, .long x), (3, .int n)] []
  obtain ⟨hnf, hnf4⟩ := ok_nf2 hok.1
  obtain ⟨hnc, hnc6⟩ := ok_nc2 hok.1
  obtain ⟨hnt, hnt60⟩ := ok_nt2 hok.1
  obtain ⟨hnw, hnw24⟩ := ok_nw2 hok.1
  have hF : ∀ i, i < 4 → zFn (9 + 2 * i) M (A 83) i := fun i hi => hR.1.2.1 i hi
  refine z_iload_n (j := 2) o dX7_feed_0 rfl ?_
  refine z_iconst (v := 1) o dX7_feed_1 (by decide) ?_
  refine z_icmplt (tgt := 11) o dX7_feed_2 (by decide) (fun c1 => ?_) (fun c1 => ?_)
  · refine z_aload_n (j := 0) o dX7_feed_11 rfl ?_
    refine z_iconst (v := 1) o dX7_feed_12 (by decide) ?_
    refine z_callVi (As := [.int 1]) (n := 1) (st := []) o dX7_feed_13 (c_X7_error hB M N 1 (by decide) (by decide)) zc_X7_54 (by decide) (i := 0) (by rw [hB]; exact zsh_lt rfl (by decide)) (zg_o rfl (by decide)) rfl rfl rfl (Nat.le_of_ble_eq_true rfl) (fun r2 g3 p4 => ?_)
    obtain ⟨rfl, rfl⟩ := p4
    have hS : sq_feed A x n = ((zE 1), zEr A 1) := by
      unfold sq_feed;  rw [if_pos (zin_lo c1)] <;> (try rfl)
    exact kret _ _ _ _ dX7_feed_16 ⟨zu M 73 1 (M 73 1 + 1), N, rfl, by rw [hS], by rw [hS]; exact (hR).er (k := 1) (by decide), ((zHi.rf (M := M))).zu (by decide)⟩
  · refine z_iload_n (j := 2) o dX7_feed_5 rfl ?_
    refine z_bipush (v := 8) o dX7_feed_6 (by decide) ?_
    refine z_icmple (tgt := 17) o dX7_feed_8 (by decide) (fun c5 => ?_) (fun c5 => ?_)
    · obtain ⟨na, lna, hna, ena⟩ := zin_rng (lo := 1) (n := 8) rfl rfl (by decide) (zin_in c1 c5)
      subst ena
      refine z_aload_n (j := 0) o dX7_feed_17 rfl ?_
      refine zo_get (i := 0) o hB dX7_feed_18 zf_X7_10 rfl (by decide) (rfl) ?_
      refine zo_get (i := 1) o hB dX7_feed_21 zf_X7_161 rfl (by decide) (rfl) ?_
      refine zo_rw (y := nI (sp_nt (A 83))) (hR.1.1.2.2.2.2.1.trans hnt) ?_
      refine z_iload_n (j := 2) o dX7_feed_24 rfl ?_
      refine z_iadd o dX7_feed_25 ?_
      refine zo_rw (y := nI (sp_nt (A 83) + na)) (zn_add (rfl) (rfl)) ?_
      refine z_bipush (v := 60) o dX7_feed_26 (by decide) ?_
      refine z_icmple (tgt := 37) o dX7_feed_28 (by decide) (fun c6 => ?_) (fun c6 => ?_)
      · have hle60 : sp_nt (A 83) + na ≤ 60 := by
          rcases Nat.lt_or_ge 60 (sp_nt (A 83) + na) with q | q
          · exact absurd (nI_lt (a := 60) q (by omega)) c6
          · exact q
        refine z_iconst (v := 0) o dX7_feed_37 (by decide) ?_
        refine z_istore (i := 4) (lv2 := [(4, .int 0), (0, zref B 0), (1, .long x), (3, .int (nI na))]) o dX7_feed_38 (by decide) rfl ?_
        have LOOP : ∀ nq kq : Nat, kq + nq = na → ∀ M1 : zM, zFr 1 M M1 → zRg 1 M1 N (sp_fd (A 83) x kq) → zW X B (zg B M1 N) 40 [(4, .int (nI kq)), (0, zref B 0), (1, .long x), (3, .int (nI na))] [] := by
          intro nq
          induction nq with
          | zero =>
            intro kq hkq M1 h1 hg1
            obtain rfl : kq = na := by omega
            have e10 : M1 1 10 = nI (sp_nt (A 83) + kq) := by rw [hg1.1.2.2.2.2.1]; exact fd_4 hnt kq
            refine z_iload (j := 0) o dX7_feed_40 rfl ?_
            refine z_iload_n (j := 3) o dX7_feed_42 rfl ?_
            refine z_icmpge (tgt := 89) o dX7_feed_43 (by decide) (fun c7 => ?_) (fun c7 => ?_)
            · refine z_aload_n (j := 1) o dX7_feed_89 rfl ?_
              refine zo_get (i := 0) o hB dX7_feed_90 zf_X7_10 rfl (by decide) (rfl) ?_
              refine zo_get (i := 1) o hB dX7_feed_93 zf_X7_161 rfl (by decide) (rfl) ?_
              refine zo_rw (y := nI (sp_nt (A 83) + kq)) (e10) ?_
              have hS : sq_feed A x (nI kq) = ((nI (sp_nt (A 83) + kq)), va_up A 83 (sp_fd (A 83) x kq)) := by
                unfold sq_feed; (try rw [zn_nI (n := kq) (by omega)]); rw [if_neg (zin_in c1 c5), if_neg c6] <;> (try rfl)
              exact kret _ _ _ _ dX7_feed_96 ⟨M1, N, rfl, by rw [hS], by rw [hS]; exact hR.now hg1 (fun j hj => h1 j (by omega)) (fun j hj => (fun j _ => rfl : zFrN 1 N N) j (by omega)), (zHi.rf (M := M)).fr h1 (by decide)⟩
            · exact absurd c7 (nI_nlt (a := kq) (b := kq) (by omega) (by omega))
          | succ nq ih =>
            intro kq hkq M1 h1 hg1
            have hlt : kq < na := by omega
            have e10 : M1 1 10 = nI (sp_nt (A 83) + kq) := by rw [hg1.1.2.2.2.2.1]; exact fd_4 hnt kq
            refine z_iload (j := 0) o dX7_feed_40 rfl ?_
            refine z_iload_n (j := 3) o dX7_feed_42 rfl ?_
            refine z_icmpge (tgt := 89) o dX7_feed_43 (by decide) (fun c8 => ?_) (fun c8 => ?_)
            · exact absurd (nI_lt (a := kq) (b := na) (by omega) (by omega)) c8
            · refine z_aload_n (j := 1) o dX7_feed_46 rfl ?_
              refine zo_get (i := 0) o hB dX7_feed_47 zf_X7_10 rfl (by decide) (rfl) ?_
              refine zo_get (i := 1) o hB dX7_feed_50 zf_X7_164 rfl (by decide) (rfl) ?_
              refine z_aload_n (j := 1) o dX7_feed_53 rfl ?_
              refine zo_get (i := 0) o hB dX7_feed_54 zf_X7_10 rfl (by decide) (rfl) ?_
              refine zo_get (i := 1) o hB dX7_feed_57 zf_X7_161 rfl (by decide) (rfl) ?_
              refine zo_rw (y := nI (sp_nt (A 83) + kq)) (e10) ?_
              refine z_lload_n (j := 2) o dX7_feed_60 rfl ?_
              refine z_bipush (v := 8) o dX7_feed_61 (by decide) ?_
              refine z_iload (j := 0) o dX7_feed_63 rfl ?_
              refine z_imul o dX7_feed_65 ?_
              refine zo_rw (y := nI (8 * kq)) (zn_mul (rfl) (rfl)) ?_
              refine z_lushr o dX7_feed_66 ?_
              refine z_l2i o dX7_feed_67 ?_
              refine z_i2b o dX7_feed_68 ?_
              refine zo_bast (i := 5) (j := sp_nt (A 83) + kq) o hB dX7_feed_69 rfl (show sp_nt (A 83) + kq < 60 by omega) (by decide) ?_
              refine z_aload_n (j := 1) o dX7_feed_70 rfl ?_
              refine zo_get (i := 0) o hB dX7_feed_71 zf_X7_10 rfl (by decide) (rfl) ?_
              refine z_dup o dX7_feed_74 rfl ?_
              refine zo_get (i := 1) o hB dX7_feed_75 zf_X7_161 rfl (by decide) (rfl) ?_
              refine zo_rw (y := nI (sp_nt (A 83) + kq)) (by rw [zu_ne (by decide)]; exact e10) ?_
              refine z_iconst (v := 1) o dX7_feed_78 (by decide) ?_
              refine z_iadd o dX7_feed_79 ?_
              refine zo_rw (y := nI (sp_nt (A 83) + kq + 1)) (zn_add (rfl) (rfl)) ?_
              refine zo_put (i := 1) o hB dX7_feed_80 zp_X7_161 rfl (by decide) (by decide) (Nat.le_of_ble_eq_true rfl) ?_
              refine z_iinc (j := 0) (v := nI (kq + 1)) (lv2 := [(4, .int (nI (kq + 1))), (0, zref B 0), (1, .long x), (3, .int (nI na))]) o dX7_feed_83 rfl (zn_ofInt _) (by decide) rfl ?_
              refine z_goto (tgt := 40) o dX7_feed_86 (by decide) ?_
              refine zo_lv [0, 1, 2, 3] rfl ?_
              exact ih (kq + 1) (by omega) _ ((h1.zu (i := 5) ⟨by omega, by omega⟩).zu (i := 1) ⟨by omega, by omega⟩) ((hg1.tap (r := 1) (k := sp_nt (A 83) + kq) (x := (zlshr x (nI (8 * kq)) &&& 255).toInt32) (by omega) (fd_byte x (by omega))).fld (r := 1) (k := 10) (v := 4) (x := (nI (sp_nt (A 83) + kq + 1))) (by decide))
        refine zo_lv [0, 1, 2, 3] rfl ?_
        exact LOOP na 0 (by omega) M zFr.rf hR.1
      · refine z_aload_n (j := 0) o dX7_feed_31 rfl ?_
        refine z_iconst (v := 4) o dX7_feed_32 (by decide) ?_
        refine z_callVi (As := [.int 4]) (n := 1) (st := []) o dX7_feed_33 (c_X7_error hB M N 4 (by decide) (by decide)) zc_X7_54 (by decide) (i := 0) (by rw [hB]; exact zsh_lt rfl (by decide)) (zg_o rfl (by decide)) rfl rfl rfl (Nat.le_of_ble_eq_true rfl) (fun r9 g10 p11 => ?_)
        obtain ⟨rfl, rfl⟩ := p11
        have hS : sq_feed A x (nI na) = ((zE 4), zEr A 4) := by
          unfold sq_feed; (try rw [zn_nI (n := na) (by omega)]); rw [if_neg (zin_in c1 c5), if_pos c6] <;> (try rfl)
        exact kret _ _ _ _ dX7_feed_36 ⟨zu M 73 4 (M 73 4 + 1), N, rfl, by rw [hS], by rw [hS]; exact (hR).er (k := 4) (by decide), ((zHi.rf (M := M))).zu (by decide)⟩
    · refine z_aload_n (j := 0) o dX7_feed_11 rfl ?_
      refine z_iconst (v := 1) o dX7_feed_12 (by decide) ?_
      refine z_callVi (As := [.int 1]) (n := 1) (st := []) o dX7_feed_13 (c_X7_error hB M N 1 (by decide) (by decide)) zc_X7_54 (by decide) (i := 0) (by rw [hB]; exact zsh_lt rfl (by decide)) (zg_o rfl (by decide)) rfl rfl rfl (Nat.le_of_ble_eq_true rfl) (fun r12 g13 p14 => ?_)
      obtain ⟨rfl, rfl⟩ := p14
      have hS : sq_feed A x n = ((zE 1), zEr A 1) := by
        unfold sq_feed;  rw [if_pos (zin_hi c5)] <;> (try rfl)
      exact kret _ _ _ _ dX7_feed_16 ⟨zu M 73 1 (M 73 1 + 1), N, rfl, by rw [hS], by rw [hS]; exact (hR).er (k := 1) (by decide), ((zHi.rf (M := M))).zu (by decide)⟩

