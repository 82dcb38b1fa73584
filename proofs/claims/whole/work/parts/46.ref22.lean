/-! the reference: text -/
def sp_rd (ρ : Nat → Int32) (u : Nat) : zPR := sp_ps (sp_lk ρ) (sp_nm u) 1000 0 0 (true, 0, [])
def sp_lawN (ρ : Nat → Int32) (u : Nat) (l : List (Int32 × Int32)) : Nat → (Nat → Int32)
  | 0 => ρ
  | k + 1 => upd (upd (sp_lawN ρ u l k) (282 + 121 * u + 1 + k) (l.getD k (0, 0)).1) (282 + 121 * u + 61 + k) (l.getD k (0, 0)).2
def sp_lay (ρ : Nat → Int32) (u : Nat) (l : List (Int32 × Int32)) : Nat → Int32 := sp_lawN (upd ρ (282 + 121 * u) (nI l.length)) u l l.length
/-- what text has set before it reads -/
def tx_M (M : zM) (u : Nat) : zM := zu (zu (zu (zu (zu M 82 16 (nI u)) 82 12 0) 82 13 0) 82 14 0) 82 15 0
theorem tx_ne {M : zM} {u i : Nat} (h : i ≠ 82) : tx_M M u i = M i := by
  unfold tx_M; rw [zu_ne h, zu_ne h, zu_ne h, zu_ne h, zu_ne h]
theorem tx_82 {M : zM} {u k : Nat} : tx_M M u 82 k = if k = 15 then 0 else if k = 14 then 0 else if k = 13 then 0 else if k = 12 then 0 else if k = 16 then nI u else M 82 k := by
  unfold tx_M
  rw [zu_at, zu_at, zu_at, zu_at, zu_at]
  rfl
theorem tx_st {M : zM} {u : Nat} : zPSt (tx_M M u) (true, 0, []) := by
  refine ⟨by rw [tx_82]; rfl, Nat.zero_le _, by rw [tx_82]; rfl, by rw [tx_82]; exact ⟨0, by omega, rfl⟩, fun _ => ⟨by rw [tx_82]; rfl, Nat.le_refl _, fun j hj => absurd hj (Nat.not_lt_zero _)⟩⟩
theorem zQ.tx {M M6 : zM} {u : Nat} (h : zPCx (tx_M M u) M6) : zQ M M6 :=
  ⟨fun i a b c d e f => by rw [h.1 i a c d, tx_ne a], by rw [h.2 3 (by decide) (by decide) (by decide), tx_82]; rfl, by rw [h.2 18 (by decide) (by decide) (by decide), tx_82]; rfl⟩
theorem zQ.z {A M1 : zM} {k : Nat} {v : Int32} (h : zQ A M1) (h3 : k ≠ 3) (h18 : k ≠ 18) : zQ A (zu M1 82 k v) :=
  ⟨fun i a b c d e f => by rw [zu_ne a]; exact h.1 i a b c d e f, by rw [zu_at, upd_ne (Ne.symm h3)]; exact h.2.1, by rw [zu_at, upd_ne (Ne.symm h18)]; exact h.2.2⟩
def sq_text (M : zM) (u : Int32) : Int32 × zM :=
  if zin u 0 1 = 0 then (zE 1, zEr M 1) else if ((sp_rd (M 83) (zn u)).1 && decide (¬ (sp_rd (M 83) (zn u)).2.1 < sp_nt (M 83))) = true then
  (1, va_up M 83 (sp_lay (upd (M 83) 4 0) (zn u) (sp_rd (M 83) (zn u)).2.2)) else ((-10) - nI (sp_rd (M 83) (zn u)).2.1, va_up M 83 (upd (M 83) 4 0))
set_option maxHeartbeats 4000000 in
set_option maxRecDepth 100000 in
theorem c_X8_text {B : zB} (hB : znn B = 95) (M : zM) (N : zN) (u : Int32) (hok : zOkAll (M 83)) : zCi B (zg B M N) yX8_text cX8_text 4 (some .int) 60 [zref B 82, .int u] (fun r g' => ∃ M' : zM, g' = zg B M' N ∧ r = (sq_text M u).1 ∧ zQ (sq_text M u).2 M') := by
  refine zCi_of (by decide +kernel) (Nat.le_of_ble_eq_true rfl) .int rfl (fun _ _ _ => rfl) ?_
  intro X o kret
  show zW X B (zg B M N) 0 [(0, zref B 82), (1, .int u)] []
  obtain ⟨hnf, hnf4⟩ := ok_nf2 hok.1
  obtain ⟨hnc, hnc6⟩ := ok_nc2 hok.1
  refine z_iload_n (j := 1) o dX8_text_0 rfl ?_
  refine z_iconst (v := 0) o dX8_text_1 (by decide) ?_
  refine z_iconst (v := 1) o dX8_text_2 (by decide) ?_
  refine z_callSi (As := [.int u, .int 0, .int 1]) (n := 3) (st := []) o dX8_text_3 (c_X8_in hB M N u 0 1) zc_X8_51 (by decide) rfl rfl (Nat.le_of_ble_eq_true rfl) (fun r1 g2 p3 => ?_)
  obtain ⟨rfl, rfl⟩ := p3
  refine z_ifne (tgt := 16) o dX8_text_6 (by decide) (fun c4 => ?_) (fun c4 => ?_)
  · obtain ⟨ua, hua, eua⟩ := zin_lit (n := 1) rfl (by decide) c4
    subst eua
    obtain ⟨hnt, hnt60⟩ := ok_nt2 hok.1
    refine z_aload_n (j := 0) o dX8_text_16 rfl ?_
    refine z_iload_n (j := 1) o dX8_text_17 rfl ?_
    refine zo_put (i := 82) o hB dX8_text_18 zp_X8_139 rfl (by decide) (by decide) (Nat.le_of_ble_eq_true rfl) ?_
    refine z_aload_n (j := 0) o dX8_text_21 rfl ?_
    refine z_iconst (v := 0) o dX8_text_22 (by decide) ?_
    refine zo_put (i := 82) o hB dX8_text_23 zp_X8_136 rfl (by decide) (by decide) (Nat.le_of_ble_eq_true rfl) ?_
    refine z_aload_n (j := 0) o dX8_text_26 rfl ?_
    refine z_iconst (v := 0) o dX8_text_27 (by decide) ?_
    refine zo_put (i := 82) o hB dX8_text_28 zp_X8_132 rfl (by decide) (by decide) (Nat.le_of_ble_eq_true rfl) ?_
    refine z_aload_n (j := 0) o dX8_text_31 rfl ?_
    refine z_iconst (v := 0) o dX8_text_32 (by decide) ?_
    refine zo_put (i := 82) o hB dX8_text_33 zp_X8_154 rfl (by decide) (by decide) (Nat.le_of_ble_eq_true rfl) ?_
    refine z_aload_n (j := 0) o dX8_text_36 rfl ?_
    refine z_iconst (v := 0) o dX8_text_37 (by decide) ?_
    refine zo_putz (i := 82) o hB dX8_text_38 zp_X8_146 rfl (by decide) (by decide) (Nat.le_of_ble_eq_true rfl) (by decide) ?_
    rw [show zu (zu (zu (zu (zu M 82 16 (nI ua)) 82 12 0) 82 13 0) 82 14 0) 82 15 0 = tx_M M ua from rfl]
    refine z_aload_n (j := 0) o dX8_text_41 rfl ?_
    refine z_callVv (As := []) (n := 0) (st := []) o dX8_text_42 ((zPall hB 1000).2.2.2.2.2 (tx_M M ua) N 0 ua (true, 0, []) (by decide) (by omega) (by rw [tx_ne (by decide)]; exact hok.1) (by rw [tx_82]; rfl) (by rw [tx_82]; rfl) rfl tx_st (by decide)) zc_X8_160 (by decide) (i := 82) (by rw [hB]; exact zsh_lt rfl (by decide)) (zg_o rfl (by decide)) rfl rfl rfl (Nat.le_of_ble_eq_true rfl) (fun g6 p7 => ?_)
    obtain ⟨M8, rfl, hXM8, hPM8⟩ := p7
    rw [show tx_M M ua 83 = M 83 from tx_ne (by decide)] at hPM8
    have e83 : M8 83 = M 83 := by rw [hXM8.1 83 (by decide) (by decide) (by decide)]; exact tx_ne (by decide)
    have hzq := zQ.tx hXM8
    have hrd : sp_rd (M 83) ua = sp_ps (sp_lk (M 83)) (sp_nm ua) 1000 0 0 (true, 0, []) := rfl
    generalize sp_ps (sp_lk (M 83)) (sp_nm ua) 1000 0 0 (true, 0, []) = q9 at hPM8 hrd
    have hT9 : q9.2.1 ≤ sp_nt (M 83) := by have := hPM8.2.1; rw [e83] at this; exact this
    cases hq : q9.1 with
    | false =>
      refine z_aload_n (j := 0) o dX8_text_45 rfl ?_
      refine z_aload_n (j := 0) o dX8_text_46 rfl ?_
      refine zo_get (i := 82) o hB dX8_text_47 zf_X8_146 rfl (by decide) rfl ?_
      refine zo_rw (y := 1) (by rw [hPM8.2.2.1, hq]; rfl) ?_
      refine z_ifne (tgt := 66) o dX8_text_50 (by decide) (fun c9 => ?_) (fun c9 => ?_)
      · refine z_iconst (v := 1) o dX8_text_66 (by decide) ?_
        refine z_goto (tgt := 71) o dX8_text_67 (by decide) ?_
        refine zo_putz (i := 82) o hB dX8_text_71 zp_X8_146 rfl (by decide) (by decide) (Nat.le_of_ble_eq_true rfl) (by decide) ?_
        refine z_aload_n (j := 0) o dX8_text_74 rfl ?_
        refine zo_get (i := 82) o hB dX8_text_75 zf_X8_9 rfl (by decide) rfl ?_
        refine z_iconst (v := 4) o dX8_text_78 (by decide) ?_
        refine z_iconst (v := 0) o dX8_text_79 (by decide) ?_
        refine zo_iast (i := 83) (j := 4) o hB dX8_text_80 rfl (show 4 < 524 by omega) (by decide) ?_
        rw [show zu (zu M8 82 15 1) 83 4 0 = va_up (zu M8 82 15 1) 83 (upd (M 83) 4 0) from by
          show va_up (zu M8 82 15 1) 83 (upd ((zu M8 82 15 1) 83) 4 0) = _
          rw [show (zu M8 82 15 1) 83 = M 83 from by rw [zu_ne (by decide)]; exact e83]]
        refine z_aload_n (j := 0) o dX8_text_81 rfl ?_
        refine zo_get (i := 82) o hB dX8_text_82 zf_X8_146 rfl (by decide) rfl ?_
        refine zo_rw (y := 1) (by rw [va_up_ne _ _ (by decide), zu_at, upd_self]) ?_
        refine z_ifeq (tgt := 96) o dX8_text_85 (by decide) (fun c10 => ?_) (fun c10 => ?_)
        · exact absurd c10 (by decide)
        · refine z_bipush (v := (-10)) o dX8_text_88 (by decide) ?_
          refine z_aload_n (j := 0) o dX8_text_90 rfl ?_
          refine zo_get (i := 82) o hB dX8_text_91 zf_X8_132 rfl (by decide) rfl ?_
          refine zo_rw (y := nI q9.2.1) (by rw [va_up_ne _ _ (by decide), zu_at, upd_ne (by decide)]; exact hPM8.1) ?_
          refine z_isub o dX8_text_94 ?_
          exact kret _ _ _ _ dX8_text_95 ⟨_, rfl, by unfold sq_text; (try rw [zn_nI (n := ua) (by omega)]); rw [if_neg c4, hrd, if_neg (by rw [hq, Bool.false_and]; exact Bool.false_ne_true)] <;> (try rfl), by unfold sq_text; (try rw [zn_nI (n := ua) (by omega)]); rw [if_neg c4, hrd, if_neg (by rw [hq, Bool.false_and]; exact Bool.false_ne_true)] <;> exact (hzq.z (k := 15) (by decide) (by decide)).up (by decide)⟩
      · exact absurd c9 (by decide)
    | true =>
      obtain ⟨hlen, hlh, hcode⟩ := hPM8.2.2.2.2 hq
      have hl60 : q9.2.2.length ≤ 60 := by omega
      refine z_aload_n (j := 0) o dX8_text_45 rfl ?_
      refine z_aload_n (j := 0) o dX8_text_46 rfl ?_
      refine zo_get (i := 82) o hB dX8_text_47 zf_X8_146 rfl (by decide) rfl ?_
      refine zo_rw (y := 0) (by rw [hPM8.2.2.1, hq]; rfl) ?_
      refine z_ifne (tgt := 66) o dX8_text_50 (by decide) (fun c11 => ?_) (fun c11 => ?_)
      · exact absurd c11 (by decide)
      · refine z_aload_n (j := 0) o dX8_text_53 rfl ?_
        refine zo_get (i := 82) o hB dX8_text_54 zf_X8_132 rfl (by decide) rfl ?_
        refine zo_rw (y := nI q9.2.1) (hPM8.1) ?_
        refine z_aload_n (j := 0) o dX8_text_57 rfl ?_
        refine zo_get (i := 82) o hB dX8_text_58 zf_X8_9 rfl (by decide) rfl ?_
        refine z_iconst (v := 4) o dX8_text_61 (by decide) ?_
        refine zo_iald (i := 83) (j := 4) o hB dX8_text_62 rfl (show 4 < 524 by omega) (by decide) ?_
        refine zo_rw (y := nI (sp_nt (M 83))) (by rw [e83]; exact hnt) ?_
        refine z_icmpge (tgt := 70) o dX8_text_63 (by decide) (fun c12 => ?_) (fun c12 => ?_)
        · have hgood : (q9.1 && decide (¬ q9.2.1 < sp_nt (M 83))) = true := by rw [hq, Bool.true_and]; exact decide_eq_true (fun q => c12 (nI_lt q (by omega)))
          refine z_iconst (v := 0) o dX8_text_70 (by decide) ?_
          refine zo_putz (i := 82) o hB dX8_text_71 zp_X8_146 rfl (by decide) (by decide) (Nat.le_of_ble_eq_true rfl) (by decide) ?_
          refine z_aload_n (j := 0) o dX8_text_74 rfl ?_
          refine zo_get (i := 82) o hB dX8_text_75 zf_X8_9 rfl (by decide) rfl ?_
          refine z_iconst (v := 4) o dX8_text_78 (by decide) ?_
          refine z_iconst (v := 0) o dX8_text_79 (by decide) ?_
          refine zo_iast (i := 83) (j := 4) o hB dX8_text_80 rfl (show 4 < 524 by omega) (by decide) ?_
          rw [show zu (zu M8 82 15 0) 83 4 0 = va_up (zu M8 82 15 0) 83 (upd (M 83) 4 0) from by
            show va_up (zu M8 82 15 0) 83 (upd ((zu M8 82 15 0) 83) 4 0) = _
            rw [show (zu M8 82 15 0) 83 = M 83 from by rw [zu_ne (by decide)]; exact e83]]
          refine z_aload_n (j := 0) o dX8_text_81 rfl ?_
          refine zo_get (i := 82) o hB dX8_text_82 zf_X8_146 rfl (by decide) rfl ?_
          refine zo_rw (y := 0) (by rw [va_up_ne _ _ (by decide), zu_at, upd_self]) ?_
          refine z_ifeq (tgt := 96) o dX8_text_85 (by decide) (fun c13 => ?_) (fun c13 => ?_)
          · refine z_sipush (v := 282) o dX8_text_96 (by decide) ?_
            refine z_bipush (v := 121) o dX8_text_99 (by decide) ?_
            refine z_iload_n (j := 1) o dX8_text_101 rfl ?_
            refine z_imul o dX8_text_102 ?_
            refine zo_rw (y := nI (121 * ua)) (zn_mul (rfl) (rfl)) ?_
            refine z_iadd o dX8_text_103 ?_
            refine zo_rw (y := nI (282 + 121 * ua)) (zn_add (rfl) (rfl)) ?_
            refine z_istore_n (i := 2) (lv2 := [(2, .int (nI (282 + 121 * ua))), (0, zref B 82), (1, .int (nI ua))]) o dX8_text_104 rfl (by decide) rfl ?_
            refine z_aload_n (j := 1) o dX8_text_105 rfl ?_
            refine zo_get (i := 82) o hB dX8_text_106 zf_X8_9 rfl (by decide) rfl ?_
            refine z_iload_n (j := 0) o dX8_text_109 rfl ?_
            refine z_aload_n (j := 1) o dX8_text_110 rfl ?_
            refine zo_get (i := 82) o hB dX8_text_111 zf_X8_136 rfl (by decide) rfl ?_
            refine zo_rw (y := nI q9.2.2.length) (by rw [va_up_ne _ _ (by decide), zu_at, upd_ne (by decide)]; exact hlen) ?_
            refine zo_iast (i := 83) (j := 282 + 121 * ua) o hB dX8_text_114 rfl (show 282 + 121 * ua < 524 by omega) (by decide) ?_
            rw [zu_va]
            refine z_iconst (v := 0) o dX8_text_115 (by decide) ?_
            refine z_istore_n (i := 3) (lv2 := [(3, .int 0), (2, .int (nI (282 + 121 * ua))), (0, zref B 82), (1, .int (nI ua))]) o dX8_text_116 rfl (by decide) rfl ?_
            have LOOP : ∀ nq kq : Nat, kq + nq = q9.2.2.length → zW X B (zg B (va_up (zu M8 82 15 0) 83 (sp_lawN (upd (upd (M 83) 4 0) (282 + 121 * ua) (nI q9.2.2.length)) ua q9.2.2 kq)) N) 117 [(3, .int (nI kq)), (2, .int (nI (282 + 121 * ua))), (0, zref B 82), (1, .int (nI ua))] [] := by
              intro nq
              induction nq with
              | zero =>
                intro kq hkq
                have hz : kq = q9.2.2.length := by omega
                refine z_iload_n (j := 0) o dX8_text_117 rfl ?_
                refine z_aload_n (j := 2) o dX8_text_118 rfl ?_
                refine zo_get (i := 82) o hB dX8_text_119 zf_X8_136 rfl (by decide) rfl ?_
                refine zo_rw (y := nI q9.2.2.length) (by rw [va_up_ne _ _ (by decide), zu_at, upd_ne (by decide)]; exact hlen) ?_
                refine z_icmpge (tgt := 164) o dX8_text_122 (by decide) (fun c14 => ?_) (fun c14 => ?_)
                · refine z_iconst (v := 1) o dX8_text_164 (by decide) ?_
                  exact kret _ _ _ _ dX8_text_165 ⟨_, rfl, by unfold sq_text; (try rw [zn_nI (n := ua) (by omega)]); rw [if_neg c4, hrd, if_pos hgood] <;> (try rfl), by unfold sq_text; (try rw [zn_nI (n := ua) (by omega)]); rw [if_neg c4, hrd, if_pos hgood] <;> (rw [hz]; exact (hzq.z (k := 15) (by decide) (by decide)).up (by decide))⟩
                · exact absurd c14 (nI_nlt (a := kq) (b := q9.2.2.length) (by omega) (by omega))
              | succ nq ih =>
                intro kq hkq
                have hlt : kq < q9.2.2.length := by omega
                refine z_iload_n (j := 0) o dX8_text_117 rfl ?_
                refine z_aload_n (j := 2) o dX8_text_118 rfl ?_
                refine zo_get (i := 82) o hB dX8_text_119 zf_X8_136 rfl (by decide) rfl ?_
                refine zo_rw (y := nI q9.2.2.length) (by rw [va_up_ne _ _ (by decide), zu_at, upd_ne (by decide)]; exact hlen) ?_
                refine z_icmpge (tgt := 164) o dX8_text_122 (by decide) (fun c15 => ?_) (fun c15 => ?_)
                · exact absurd (nI_lt (a := kq) (b := q9.2.2.length) (by omega) (by omega)) c15
                · refine z_aload_n (j := 2) o dX8_text_125 rfl ?_
                  refine zo_get (i := 82) o hB dX8_text_126 zf_X8_9 rfl (by decide) rfl ?_
                  refine z_iload_n (j := 1) o dX8_text_129 rfl ?_
                  refine z_iconst (v := 1) o dX8_text_130 (by decide) ?_
                  refine z_iadd o dX8_text_131 ?_
                  refine zo_rw (y := nI (282 + 121 * ua + 1)) (zn_add (rfl) (rfl)) ?_
                  refine z_iload_n (j := 0) o dX8_text_132 rfl ?_
                  refine z_iadd o dX8_text_133 ?_
                  refine zo_rw (y := nI (282 + 121 * ua + 1 + kq)) (zn_add (rfl) (rfl)) ?_
                  refine z_aload_n (j := 2) o dX8_text_134 rfl ?_
                  refine zo_get (i := 82) o hB dX8_text_135 zf_X8_31 rfl (by decide) rfl ?_
                  refine z_iload_n (j := 0) o dX8_text_138 rfl ?_
                  refine zo_iald (i := 90) (j := kq) o hB dX8_text_139 rfl (show kq < 60 by omega) (by decide) ?_
                  refine zo_rw (y := (q9.2.2.getD kq (0, 0)).1) (by rw [va_up_ne _ _ (by decide), zu_ne (by decide)]; exact (hcode kq hlt).1) ?_
                  refine zo_iast (i := 83) (j := 282 + 121 * ua + 1 + kq) o hB dX8_text_140 rfl (show 282 + 121 * ua + 1 + kq < 524 by omega) (by decide) ?_
                  rw [zu_va]
                  refine z_aload_n (j := 2) o dX8_text_141 rfl ?_
                  refine zo_get (i := 82) o hB dX8_text_142 zf_X8_9 rfl (by decide) rfl ?_
                  refine z_iload_n (j := 1) o dX8_text_145 rfl ?_
                  refine z_bipush (v := 61) o dX8_text_146 (by decide) ?_
                  refine z_iadd o dX8_text_148 ?_
                  refine zo_rw (y := nI (282 + 121 * ua + 61)) (zn_add (rfl) (rfl)) ?_
                  refine z_iload_n (j := 0) o dX8_text_149 rfl ?_
                  refine z_iadd o dX8_text_150 ?_
                  refine zo_rw (y := nI (282 + 121 * ua + 61 + kq)) (zn_add (rfl) (rfl)) ?_
                  refine z_aload_n (j := 2) o dX8_text_151 rfl ?_
                  refine zo_get (i := 82) o hB dX8_text_152 zf_X8_34 rfl (by decide) rfl ?_
                  refine z_iload_n (j := 0) o dX8_text_155 rfl ?_
                  refine zo_iald (i := 91) (j := kq) o hB dX8_text_156 rfl (show kq < 60 by omega) (by decide) ?_
                  refine zo_rw (y := (q9.2.2.getD kq (0, 0)).2) (by rw [va_up_ne _ _ (by decide), zu_ne (by decide)]; exact (hcode kq hlt).2) ?_
                  refine zo_iast (i := 83) (j := 282 + 121 * ua + 61 + kq) o hB dX8_text_157 rfl (show 282 + 121 * ua + 61 + kq < 524 by omega) (by decide) ?_
                  rw [zu_va]
                  refine z_iinc (j := 0) (v := nI (kq + 1)) (lv2 := [(3, .int (nI (kq + 1))), (2, .int (nI (282 + 121 * ua))), (0, zref B 82), (1, .int (nI ua))]) o dX8_text_158 rfl (zn_ofInt _) (by decide) rfl ?_
                  refine z_goto (tgt := 117) o dX8_text_161 (by decide) ?_
                  refine zo_lv [0, 1, 2, 3] rfl ?_
                  exact ih (kq + 1) (by omega)
            refine zo_lv [0, 1, 2, 3] rfl ?_
            exact LOOP q9.2.2.length 0 (by omega)
          · exact absurd c13 (by decide)
        · have hbad : ¬ (q9.1 && decide (¬ q9.2.1 < sp_nt (M 83))) = true := by rw [hq, Bool.true_and]; intro q; exact of_decide_eq_true q ((nI_ltI (by omega) (by omega)).mp c12)
          refine z_iconst (v := 1) o dX8_text_66 (by decide) ?_
          refine z_goto (tgt := 71) o dX8_text_67 (by decide) ?_
          refine zo_putz (i := 82) o hB dX8_text_71 zp_X8_146 rfl (by decide) (by decide) (Nat.le_of_ble_eq_true rfl) (by decide) ?_
          refine z_aload_n (j := 0) o dX8_text_74 rfl ?_
          refine zo_get (i := 82) o hB dX8_text_75 zf_X8_9 rfl (by decide) rfl ?_
          refine z_iconst (v := 4) o dX8_text_78 (by decide) ?_
          refine z_iconst (v := 0) o dX8_text_79 (by decide) ?_
          refine zo_iast (i := 83) (j := 4) o hB dX8_text_80 rfl (show 4 < 524 by omega) (by decide) ?_
          rw [show zu (zu M8 82 15 1) 83 4 0 = va_up (zu M8 82 15 1) 83 (upd (M 83) 4 0) from by
            show va_up (zu M8 82 15 1) 83 (upd ((zu M8 82 15 1) 83) 4 0) = _
            rw [show (zu M8 82 15 1) 83 = M 83 from by rw [zu_ne (by decide)]; exact e83]]
          refine z_aload_n (j := 0) o dX8_text_81 rfl ?_
          refine zo_get (i := 82) o hB dX8_text_82 zf_X8_146 rfl (by decide) rfl ?_
          refine zo_rw (y := 1) (by rw [va_up_ne _ _ (by decide), zu_at, upd_self]) ?_
          refine z_ifeq (tgt := 96) o dX8_text_85 (by decide) (fun c16 => ?_) (fun c16 => ?_)
          · exact absurd c16 (by decide)
          · refine z_bipush (v := (-10)) o dX8_text_88 (by decide) ?_
            refine z_aload_n (j := 0) o dX8_text_90 rfl ?_
            refine zo_get (i := 82) o hB dX8_text_91 zf_X8_132 rfl (by decide) rfl ?_
            refine zo_rw (y := nI q9.2.1) (by rw [va_up_ne _ _ (by decide), zu_at, upd_ne (by decide)]; exact hPM8.1) ?_
            refine z_isub o dX8_text_94 ?_
            exact kret _ _ _ _ dX8_text_95 ⟨_, rfl, by unfold sq_text; (try rw [zn_nI (n := ua) (by omega)]); rw [if_neg c4, hrd, if_neg (hbad)] <;> (try rfl), by unfold sq_text; (try rw [zn_nI (n := ua) (by omega)]); rw [if_neg c4, hrd, if_neg (hbad)] <;> exact (hzq.z (k := 15) (by decide) (by decide)).up (by decide)⟩
  · refine z_aload_n (j := 0) o dX8_text_9 rfl ?_
    refine z_ldc (v := (-1000000001)) o dX8_text_10 zk_X8_100 ?_
    refine z_callVi (As := [.int (-1000000001)]) (n := 1) (st := []) o dX8_text_12 (c_X8_error hB M N 1 (by omega)) zc_X8_101 (by decide) (i := 82) (by rw [hB]; exact zsh_lt rfl (by decide)) (zg_o rfl (by decide)) rfl rfl rfl (Nat.le_of_ble_eq_true rfl) (fun r17 g18 p19 => ?_)
    obtain ⟨rfl, rfl⟩ := p19
    exact kret _ _ _ _ dX8_text_15 ⟨_, rfl, by unfold sq_text;  rw [if_pos c4] <;> (try rfl), by unfold sq_text;  rw [if_pos c4] <;> exact zQ.rf⟩

