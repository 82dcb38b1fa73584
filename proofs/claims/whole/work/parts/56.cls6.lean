/-! the class: a Law -/
set_option maxHeartbeats 4000000 in
set_option maxRecDepth 100000 in
theorem c_X2_joined {B : zB} (hB : znn B = 95) (M : zM) (N : zN) (s x y : Int32) : zCi B (zg B M N) yX2_joined cX2_joined 3 (some .int) 1 [.int s, .int x, .int y] (fun r g' => g' = zg B M N ∧ r = cg_join s x y) := by
  refine zCi_of (by decide +kernel) (Nat.le_of_ble_eq_true rfl) .int rfl (fun _ _ _ => rfl) ?_
  intro X o kret
  show zW X B (zg B M N) 0 [(0, .int s), (1, .int x), (2, .int y)] []
  refine z_iload_n (j := 0) o dX2_joined_0 rfl ?_
  refine z_lcase 38 (off := 100) (tgt := 101) o dX2_joined_1 (by decide) (by decide) (by decide) (fun c1 => ?_) (fun c1 => ?_)
  · refine z_iload_n (j := 1) o dX2_joined_101 rfl ?_
    refine z_ifeq (tgt := 113) o dX2_joined_102 (by decide) (fun c2 => ?_) (fun c2 => ?_)
    · refine z_iconst (v := 0) o dX2_joined_113 (by decide) ?_
      refine z_callSi (As := [.int 0]) (n := 1) (st := []) o dX2_joined_114 (c_X2_truth hB M N 0) zc_X2_50 (by decide) rfl rfl (Nat.le_of_ble_eq_true rfl) (fun r3 g4 p5 => ?_)
      obtain ⟨rfl, rfl⟩ := p5
      refine zo_rw (y := 0) (by decide) ?_
      exact kret _ _ _ _ dX2_joined_117 ⟨rfl, by unfold cg_join zirem; simp [*]⟩
    · refine z_iload_n (j := 2) o dX2_joined_105 rfl ?_
      refine z_ifeq (tgt := 113) o dX2_joined_106 (by decide) (fun c6 => ?_) (fun c6 => ?_)
      · refine z_iconst (v := 0) o dX2_joined_113 (by decide) ?_
        refine z_callSi (As := [.int 0]) (n := 1) (st := []) o dX2_joined_114 (c_X2_truth hB M N 0) zc_X2_50 (by decide) rfl rfl (Nat.le_of_ble_eq_true rfl) (fun r7 g8 p9 => ?_)
        obtain ⟨rfl, rfl⟩ := p9
        refine zo_rw (y := 0) (by decide) ?_
        exact kret _ _ _ _ dX2_joined_117 ⟨rfl, by unfold cg_join zirem; simp [*]⟩
      · refine z_iconst (v := 1) o dX2_joined_109 (by decide) ?_
        refine z_goto (tgt := 114) o dX2_joined_110 (by decide) ?_
        refine z_callSi (As := [.int 1]) (n := 1) (st := []) o dX2_joined_114 (c_X2_truth hB M N 1) zc_X2_50 (by decide) rfl rfl (Nat.le_of_ble_eq_true rfl) (fun r10 g11 p12 => ?_)
        obtain ⟨rfl, rfl⟩ := p12
        refine zo_rw (y := 1) (by decide) ?_
        exact kret _ _ _ _ dX2_joined_117 ⟨rfl, by unfold cg_join zirem; simp [*]⟩
  refine z_lcase 42 (off := 167) (tgt := 168) o dX2_joined_1 (by decide) (by decide) (by decide) (fun c13 => ?_) (fun c13 => ?_)
  · refine z_iload_n (j := 1) o dX2_joined_168 rfl ?_
    refine z_iload_n (j := 2) o dX2_joined_169 rfl ?_
    refine z_imul o dX2_joined_170 ?_
    exact kret _ _ _ _ dX2_joined_171 ⟨rfl, by unfold cg_join zirem; simp [*]⟩
  refine z_lcase 43 (off := 159) (tgt := 160) o dX2_joined_1 (by decide) (by decide) (by decide) (fun c14 => ?_) (fun c14 => ?_)
  · refine z_iload_n (j := 1) o dX2_joined_160 rfl ?_
    refine z_iload_n (j := 2) o dX2_joined_161 rfl ?_
    refine z_iadd o dX2_joined_162 ?_
    exact kret _ _ _ _ dX2_joined_163 ⟨rfl, by unfold cg_join zirem; simp [*]⟩
  refine z_lcase 45 (off := 163) (tgt := 164) o dX2_joined_1 (by decide) (by decide) (by decide) (fun c15 => ?_) (fun c15 => ?_)
  · refine z_iload_n (j := 1) o dX2_joined_164 rfl ?_
    refine z_iload_n (j := 2) o dX2_joined_165 rfl ?_
    refine z_isub o dX2_joined_166 ?_
    exact kret _ _ _ _ dX2_joined_167 ⟨rfl, by unfold cg_join zirem; simp [*]⟩
  refine z_lcase 47 (off := 171) (tgt := 172) o dX2_joined_1 (by decide) (by decide) (by decide) (fun c16 => ?_) (fun c16 => ?_)
  · refine z_iload_n (j := 2) o dX2_joined_172 rfl ?_
    refine z_ifne (tgt := 180) o dX2_joined_173 (by decide) (fun c17 => ?_) (fun c17 => ?_)
    · refine z_iload_n (j := 1) o dX2_joined_180 rfl ?_
      refine z_iload_n (j := 2) o dX2_joined_181 rfl ?_
      refine z_idiv o dX2_joined_182 (by assumption) ?_
      exact kret _ _ _ _ dX2_joined_183 ⟨rfl, by unfold cg_join zirem; simp [*]⟩
    · refine z_iconst (v := 0) o dX2_joined_176 (by decide) ?_
      refine z_goto (tgt := 183) o dX2_joined_177 (by decide) ?_
      exact kret _ _ _ _ dX2_joined_183 ⟨rfl, by unfold cg_join zirem; simp [*]⟩
  refine z_lcase 60 (off := 117) (tgt := 118) o dX2_joined_1 (by decide) (by decide) (by decide) (fun c18 => ?_) (fun c18 => ?_)
  · refine z_iload_n (j := 1) o dX2_joined_118 rfl ?_
    refine z_iload_n (j := 2) o dX2_joined_119 rfl ?_
    refine z_icmpge (tgt := 127) o dX2_joined_120 (by decide) (fun c19 => ?_) (fun c19 => ?_)
    · refine z_iconst (v := 0) o dX2_joined_127 (by decide) ?_
      refine z_callSi (As := [.int 0]) (n := 1) (st := []) o dX2_joined_128 (c_X2_truth hB M N 0) zc_X2_50 (by decide) rfl rfl (Nat.le_of_ble_eq_true rfl) (fun r20 g21 p22 => ?_)
      obtain ⟨rfl, rfl⟩ := p22
      refine zo_rw (y := 0) (by decide) ?_
      exact kret _ _ _ _ dX2_joined_131 ⟨rfl, by unfold cg_join zirem; simp [*]⟩
    · refine z_iconst (v := 1) o dX2_joined_123 (by decide) ?_
      refine z_goto (tgt := 128) o dX2_joined_124 (by decide) ?_
      refine z_callSi (As := [.int 1]) (n := 1) (st := []) o dX2_joined_128 (c_X2_truth hB M N 1) zc_X2_50 (by decide) rfl rfl (Nat.le_of_ble_eq_true rfl) (fun r23 g24 p25 => ?_)
      obtain ⟨rfl, rfl⟩ := p25
      refine zo_rw (y := 1) (by decide) ?_
      exact kret _ _ _ _ dX2_joined_131 ⟨rfl, by unfold cg_join zirem; simp [*]⟩
  refine z_lcase 61 (off := 131) (tgt := 132) o dX2_joined_1 (by decide) (by decide) (by decide) (fun c26 => ?_) (fun c26 => ?_)
  · refine z_iload_n (j := 1) o dX2_joined_132 rfl ?_
    refine z_iload_n (j := 2) o dX2_joined_133 rfl ?_
    refine z_icmpne (tgt := 141) o dX2_joined_134 (by decide) (fun c27 => ?_) (fun c27 => ?_)
    · refine z_iconst (v := 0) o dX2_joined_141 (by decide) ?_
      refine z_callSi (As := [.int 0]) (n := 1) (st := []) o dX2_joined_142 (c_X2_truth hB M N 0) zc_X2_50 (by decide) rfl rfl (Nat.le_of_ble_eq_true rfl) (fun r28 g29 p30 => ?_)
      obtain ⟨rfl, rfl⟩ := p30
      refine zo_rw (y := 0) (by decide) ?_
      exact kret _ _ _ _ dX2_joined_145 ⟨rfl, by unfold cg_join zirem; simp [*]⟩
    · refine z_iconst (v := 1) o dX2_joined_137 (by decide) ?_
      refine z_goto (tgt := 142) o dX2_joined_138 (by decide) ?_
      refine z_callSi (As := [.int 1]) (n := 1) (st := []) o dX2_joined_142 (c_X2_truth hB M N 1) zc_X2_50 (by decide) rfl rfl (Nat.le_of_ble_eq_true rfl) (fun r31 g32 p33 => ?_)
      obtain ⟨rfl, rfl⟩ := p33
      refine zo_rw (y := 1) (by decide) ?_
      exact kret _ _ _ _ dX2_joined_145 ⟨rfl, by unfold cg_join zirem; simp [*]⟩
  refine z_lcase 62 (off := 145) (tgt := 146) o dX2_joined_1 (by decide) (by decide) (by decide) (fun c34 => ?_) (fun c34 => ?_)
  · refine z_iload_n (j := 1) o dX2_joined_146 rfl ?_
    refine z_iload_n (j := 2) o dX2_joined_147 rfl ?_
    refine z_icmple (tgt := 155) o dX2_joined_148 (by decide) (fun c35 => ?_) (fun c35 => ?_)
    · refine z_iconst (v := 0) o dX2_joined_155 (by decide) ?_
      refine z_callSi (As := [.int 0]) (n := 1) (st := []) o dX2_joined_156 (c_X2_truth hB M N 0) zc_X2_50 (by decide) rfl rfl (Nat.le_of_ble_eq_true rfl) (fun r36 g37 p38 => ?_)
      obtain ⟨rfl, rfl⟩ := p38
      refine zo_rw (y := 0) (by decide) ?_
      exact kret _ _ _ _ dX2_joined_159 ⟨rfl, by unfold cg_join zirem; simp [*]⟩
    · refine z_iconst (v := 1) o dX2_joined_151 (by decide) ?_
      refine z_goto (tgt := 156) o dX2_joined_152 (by decide) ?_
      refine z_callSi (As := [.int 1]) (n := 1) (st := []) o dX2_joined_156 (c_X2_truth hB M N 1) zc_X2_50 (by decide) rfl rfl (Nat.le_of_ble_eq_true rfl) (fun r39 g40 p41 => ?_)
      obtain ⟨rfl, rfl⟩ := p41
      refine zo_rw (y := 1) (by decide) ?_
      exact kret _ _ _ _ dX2_joined_159 ⟨rfl, by unfold cg_join zirem; simp [*]⟩
  refine z_lcase 124 (off := 83) (tgt := 84) o dX2_joined_1 (by decide) (by decide) (by decide) (fun c42 => ?_) (fun c42 => ?_)
  · refine z_iload_n (j := 1) o dX2_joined_84 rfl ?_
    refine z_ifne (tgt := 92) o dX2_joined_85 (by decide) (fun c43 => ?_) (fun c43 => ?_)
    · refine z_iconst (v := 1) o dX2_joined_92 (by decide) ?_
      refine z_goto (tgt := 97) o dX2_joined_93 (by decide) ?_
      refine z_callSi (As := [.int 1]) (n := 1) (st := []) o dX2_joined_97 (c_X2_truth hB M N 1) zc_X2_50 (by decide) rfl rfl (Nat.le_of_ble_eq_true rfl) (fun r44 g45 p46 => ?_)
      obtain ⟨rfl, rfl⟩ := p46
      refine zo_rw (y := 1) (by decide) ?_
      exact kret _ _ _ _ dX2_joined_100 ⟨rfl, by unfold cg_join zirem; simp [*]⟩
    · refine z_iload_n (j := 2) o dX2_joined_88 rfl ?_
      refine z_ifeq (tgt := 96) o dX2_joined_89 (by decide) (fun c47 => ?_) (fun c47 => ?_)
      · refine z_iconst (v := 0) o dX2_joined_96 (by decide) ?_
        refine z_callSi (As := [.int 0]) (n := 1) (st := []) o dX2_joined_97 (c_X2_truth hB M N 0) zc_X2_50 (by decide) rfl rfl (Nat.le_of_ble_eq_true rfl) (fun r48 g49 p50 => ?_)
        obtain ⟨rfl, rfl⟩ := p50
        refine zo_rw (y := 0) (by decide) ?_
        exact kret _ _ _ _ dX2_joined_100 ⟨rfl, by unfold cg_join zirem; simp [*]⟩
      · refine z_iconst (v := 1) o dX2_joined_92 (by decide) ?_
        refine z_goto (tgt := 97) o dX2_joined_93 (by decide) ?_
        refine z_callSi (As := [.int 1]) (n := 1) (st := []) o dX2_joined_97 (c_X2_truth hB M N 1) zc_X2_50 (by decide) rfl rfl (Nat.le_of_ble_eq_true rfl) (fun r51 g52 p53 => ?_)
        obtain ⟨rfl, rfl⟩ := p53
        refine zo_rw (y := 1) (by decide) ?_
        exact kret _ _ _ _ dX2_joined_100 ⟨rfl, by unfold cg_join zirem; simp [*]⟩
  refine z_ldef (tgt := 184) o dX2_joined_1 (by decide) (by show Op.lookupswitch.offset [(38, 100), (42, 167), (43, 159), (45, 163), (47, 171), (60, 117), (61, 131), (62, 145), (124, 83)] _ _ = _; rw [lv_osw (a := 38) c1 rfl, lv_osw (a := 42) c13 rfl, lv_osw (a := 43) c14 rfl, lv_osw (a := 45) c15 rfl, lv_osw (a := 47) c16 rfl, lv_osw (a := 60) c18 rfl, lv_osw (a := 61) c26 rfl, lv_osw (a := 62) c34 rfl, lv_osw (a := 124) c42 rfl]; rfl) (by decide) ?_
  refine z_iload_n (j := 2) o dX2_joined_184 rfl ?_
  refine z_ifne (tgt := 192) o dX2_joined_185 (by decide) (fun c54 => ?_) (fun c54 => ?_)
  · refine z_iload_n (j := 1) o dX2_joined_192 rfl ?_
    refine z_iload_n (j := 2) o dX2_joined_193 rfl ?_
    refine z_irem o dX2_joined_194 (by assumption) ?_
    exact kret _ _ _ _ dX2_joined_195 ⟨rfl, by unfold cg_join zirem; simp [*]⟩
  · refine z_iconst (v := 0) o dX2_joined_188 (by decide) ?_
    refine z_goto (tgt := 195) o dX2_joined_189 (by decide) ?_
    exact kret _ _ _ _ dX2_joined_195 ⟨rfl, by unfold cg_join zirem; simp [*]⟩

set_option maxHeartbeats 4000000 in
set_option maxRecDepth 100000 in
theorem c_X2_workedOut {B : zB} (hB : znn B = 95) (M : zM) (N : zN) (w u L : Nat) (ρ : Nat → Int32) (a b c : Int32) (hw : zsh w = 1) (hL : M w 3 = nI L) (hL60 : L ≤ 60) (hwf : zWf (sp_A ρ u) (sp_W ρ u) L) (hcode : ∀ k, k < L → zTok (sp_A ρ u k) (sp_W ρ u k) (M (w + 2) k)) : zCi B (zg B M N) yX2_workedOut cX2_workedOut 7 (some .int) 2 [zref B w, .int a, .int b, .int c] (fun r g' => ∃ P, g' = zg B (va_up M (w + 1) P) N ∧ r = sp_res (sp_wk (sp_A ρ u) (sp_W ρ u) (sp_fa a b c) L)) := by
  refine zCi_of (by decide +kernel) (Nat.le_of_ble_eq_true rfl) .int rfl (fun _ _ _ => rfl) ?_
  intro X o kret
  show zW X B (zg B M N) 0 [(0, zref B w), (1, .int a), (2, .int b), (3, .int c)] []
  obtain ⟨dp, d0, hst, hdL⟩ := hwf
  have hdk := zWf_le d0 hst
  refine z_iconst (v := 0) o dX2_workedOut_0 (by decide) ?_
  refine z_istore (i := 4) (lv2 := [(4, .int 0), (0, zref B w), (1, .int a), (2, .int b), (3, .int c)]) o dX2_workedOut_1 (by decide) rfl ?_
  refine z_iconst (v := 0) o dX2_workedOut_3 (by decide) ?_
  refine z_istore (i := 5) (lv2 := [(5, .int 0), (4, .int 0), (0, zref B w), (1, .int a), (2, .int b), (3, .int c)]) o dX2_workedOut_4 (by decide) rfl ?_
  have LOOP : ∀ nq kq : Nat, kq + nq = L → ∀ P : Nat → Int32, zPl P (sp_wk (sp_A ρ u) (sp_W ρ u) (sp_fa a b c) kq) → (sp_wk (sp_A ρ u) (sp_W ρ u) (sp_fa a b c) kq).length = dp kq → zW X B (zg B (va_up M (w + 1) P) N) 6 [(5, .int (nI kq)), (4, .int (nI (dp kq))), (0, zref B w), (1, .int a), (2, .int b), (3, .int c)] [] := by
    intro nq
    induction nq with
    | zero =>
      intro kq hkq P hP hl
      have hz : kq = L := by omega
      have hdp := hdk kq (by omega)
      have h1d : 1 ≤ dp kq := by rw [hz]; exact hdL
      refine z_iload (j := 0) o dX2_workedOut_6 rfl ?_
      refine z_aload_n (j := 2) o dX2_workedOut_8 rfl ?_
      refine zo_get (i := w) o hB dX2_workedOut_9 zf_X2_35 hw (by decide) (rfl) ?_
      refine zo_rw (y := nI L) (by rw [va_up_ne _ _ (by omega)]; exact hL) ?_
      refine z_icmpge (tgt := 177) o dX2_workedOut_12 (by decide) (fun c1 => ?_) (fun c1 => ?_)
      · refine z_aload_n (j := 2) o dX2_workedOut_177 rfl ?_
        refine zo_get (i := w) o hB dX2_workedOut_178 zf_X2_9 hw (by decide) (rfl) ?_
        refine z_iconst (v := 0) o dX2_workedOut_181 (by decide) ?_
        refine zo_iald (i := w + 1) (j := 0) o hB dX2_workedOut_182 (zh_L1 hw) (by rw [(zh_L1n hw)]; omega) (by rw [(zh_L1n hw)]; decide) ?_
        refine zo_rw (y := P 0) (by rw [va_up_self]) ?_
        exact kret _ _ _ _ dX2_workedOut_183 ⟨P, rfl, by
          have h9 := hP ((sp_wk (sp_A ρ u) (sp_W ρ u) (sp_fa a b c) kq).length - 1) (by omega)
          rw [Nat.sub_self] at h9
          rw [← hz]; exact h9⟩
      · exact absurd c1 (nI_nlt (a := kq) (b := L) (by omega) (by omega))
    | succ nq ih =>
      intro kq hkq P hP hl
      have hlt : kq < L := by omega
      have hdp := hdk kq (by omega)
      have hd60 : dp kq < 60 := by omega
      have hA : sp_A ρ u kq = ρ (282 + 121 * u + 1 + kq) := rfl
      rcases hcode kq hlt with ⟨e1, ⟨v, hv, ev⟩, ec⟩ | ⟨e1, ⟨v, hv, ev⟩, ec⟩ | ⟨e1, ec⟩ | ⟨hsg, ec⟩
      · have ed : dp (kq + 1) = dp kq + 1 := by
          rcases hst kq hlt with ⟨q, w9⟩ | ⟨q, -, w9⟩ | ⟨q, -, -⟩ | ⟨q, -, -, -, -⟩
          · exact w9
          · exact w9
          · rw [e1] at q; exact absurd q (by decide)
          · exact absurd e1 q
        obtain ⟨n1, n2, n3⟩ := num_ne hv
        refine z_iload (j := 0) o dX2_workedOut_6 rfl ?_
        refine z_aload_n (j := 2) o dX2_workedOut_8 rfl ?_
        refine zo_get (i := w) o hB dX2_workedOut_9 zf_X2_35 hw (by decide) (rfl) ?_
        refine zo_rw (y := nI L) (by rw [va_up_ne _ _ (by omega)]; exact hL) ?_
        refine z_icmpge (tgt := 177) o dX2_workedOut_12 (by decide) (fun c2 => ?_) (fun c2 => ?_)
        · exact absurd (nI_lt (a := kq) (b := L) (by omega) (by omega)) c2
        · refine z_aload_n (j := 2) o dX2_workedOut_15 rfl ?_
          refine zo_get (i := w) o hB dX2_workedOut_16 zf_X2_15 hw (by decide) (rfl) ?_
          refine z_iload (j := 0) o dX2_workedOut_19 rfl ?_
          refine zo_iald (i := w + 2) (j := kq) o hB dX2_workedOut_21 (zh_L2 hw) (by rw [(zh_L2n hw)]; omega) (by rw [(zh_L2n hw)]; decide) ?_
          refine zo_rw (y := M (w + 2) kq) (by rw [va_up_ne _ _ (by omega)]) ?_
          refine zo_rw (y := nI v) (ec.trans ev) ?_
          refine z_istore (i := 6) (lv2 := [(6, .int (nI v)), (5, .int (nI kq)), (4, .int (nI (dp kq))), (0, zref B w), (1, .int a), (2, .int b), (3, .int c)]) o dX2_workedOut_22 (by decide) rfl ?_
          refine z_iload (j := 0) o dX2_workedOut_24 rfl ?_
          refine z_bipush (v := (-33)) o dX2_workedOut_26 (by decide) ?_
          refine z_icmpne (tgt := 69) o dX2_workedOut_28 (by decide) (fun c3 => ?_) (fun c3 => ?_)
          · refine z_iload (j := 0) o dX2_workedOut_69 rfl ?_
            refine z_bipush (v := (-3)) o dX2_workedOut_71 (by decide) ?_
            refine z_icmpge (tgt := 119) o dX2_workedOut_73 (by decide) (fun c4 => ?_) (fun c4 => ?_)
            · refine z_iload (j := 2) o dX2_workedOut_119 rfl ?_
              refine z_aload_n (j := 3) o dX2_workedOut_121 rfl ?_
              refine zo_get (i := w) o hB dX2_workedOut_122 zf_X2_9 hw (by decide) (rfl) ?_
              refine zo_leni (i := w + 1) o hB dX2_workedOut_125 (zh_L1 hw) ?_
              refine zo_rw (y := nI 60) (by rw [(zh_L1n hw)]) ?_
              refine z_icmpge (tgt := 171) o dX2_workedOut_126 (by decide) (fun c5 => ?_) (fun c5 => ?_)
              · exact absurd (nI_lt (a := dp kq) (b := 60) (by omega) (by omega)) c5
              · refine z_aload_n (j := 3) o dX2_workedOut_129 rfl ?_
                refine zo_get (i := w) o hB dX2_workedOut_130 zf_X2_9 hw (by decide) (rfl) ?_
                refine z_iload (j := 2) o dX2_workedOut_133 rfl ?_
                refine z_iload (j := 0) o dX2_workedOut_135 rfl ?_
                refine z_iflt (tgt := 145) o dX2_workedOut_137 (by decide) (fun c6 => ?_) (fun c6 => ?_)
                · exact absurd c6 n3
                · refine z_iload (j := 0) o dX2_workedOut_140 rfl ?_
                  refine z_goto (tgt := 167) o dX2_workedOut_142 (by decide) ?_
                  refine zo_iast (i := w + 1) (j := dp kq) o hB dX2_workedOut_167 (zh_L1 hw) (by rw [(zh_L1n hw)]; omega) (by rw [(zh_L1n hw)]; decide) ?_
                  rw [zu_va]
                  refine z_iinc (j := 2) (v := nI (dp kq + 1)) (lv2 := [(4, .int (nI (dp kq + 1))), (6, .int (nI v)), (5, .int (nI kq)), (0, zref B w), (1, .int a), (2, .int b), (3, .int c)]) o dX2_workedOut_168 rfl (zn_ofInt _) (by decide) rfl ?_
                  refine z_iinc (j := 2) (v := nI (kq + 1)) (lv2 := [(5, .int (nI (kq + 1))), (4, .int (nI (dp kq + 1))), (6, .int (nI v)), (0, zref B w), (1, .int a), (2, .int b), (3, .int c)]) o dX2_workedOut_171 rfl (zn_ofInt _) (by decide) rfl ?_
                  refine z_goto (tgt := 6) o dX2_workedOut_174 (by decide) ?_
                  refine zo_lv [0, 1, 3, 4, 5, 6] rfl ?_
                  have es : sp_wk (sp_A ρ u) (sp_W ρ u) (sp_fa a b c) (kq + 1) = nI v :: (sp_wk (sp_A ρ u) (sp_W ρ u) (sp_fa a b c) kq) := by show sp_stp _ _ _ _ = _; unfold sp_stp; rw [if_pos e1, ev]
                  have hh := ih (kq + 1) (by omega) (upd P (dp kq) (nI v)) (by rw [es]; exact zPl_push hP hl _) (by rw [es]; rw [List.length_cons, hl]; omega)
                  rw [ed] at hh
                  exact hh
            · exact absurd c4 n2
          · exact absurd c3 n1
      · have ed : dp (kq + 1) = dp kq + 1 := by
          rcases hst kq hlt with ⟨q, w9⟩ | ⟨q, -, w9⟩ | ⟨q, -, -⟩ | ⟨-, q, -, -, -⟩
          · exact w9
          · exact w9
          · rw [e1] at q; exact absurd q (by decide)
          · exact absurd e1 q
        rcases (show v = 0 ∨ v = 1 ∨ v = 2 by omega) with rfl | rfl | rfl
        · refine z_iload (j := 0) o dX2_workedOut_6 rfl ?_
          refine z_aload_n (j := 2) o dX2_workedOut_8 rfl ?_
          refine zo_get (i := w) o hB dX2_workedOut_9 zf_X2_35 hw (by decide) (rfl) ?_
          refine zo_rw (y := nI L) (by rw [va_up_ne _ _ (by omega)]; exact hL) ?_
          refine z_icmpge (tgt := 177) o dX2_workedOut_12 (by decide) (fun c7 => ?_) (fun c7 => ?_)
          · exact absurd (nI_lt (a := kq) (b := L) (by omega) (by omega)) c7
          · refine z_aload_n (j := 2) o dX2_workedOut_15 rfl ?_
            refine zo_get (i := w) o hB dX2_workedOut_16 zf_X2_15 hw (by decide) (rfl) ?_
            refine z_iload (j := 0) o dX2_workedOut_19 rfl ?_
            refine zo_iald (i := w + 2) (j := kq) o hB dX2_workedOut_21 (zh_L2 hw) (by rw [(zh_L2n hw)]; omega) (by rw [(zh_L2n hw)]; decide) ?_
            refine zo_rw (y := M (w + 2) kq) (by rw [va_up_ne _ _ (by omega)]) ?_
            refine zo_rw (y := (-1)) (by rw [ec, ev]; decide) ?_
            refine z_istore (i := 6) (lv2 := [(6, .int (-1)), (5, .int (nI kq)), (4, .int (nI (dp kq))), (0, zref B w), (1, .int a), (2, .int b), (3, .int c)]) o dX2_workedOut_22 (by decide) rfl ?_
            refine z_iload (j := 0) o dX2_workedOut_24 rfl ?_
            refine z_bipush (v := (-33)) o dX2_workedOut_26 (by decide) ?_
            refine z_icmpne (tgt := 69) o dX2_workedOut_28 (by decide) (fun c8 => ?_) (fun c8 => ?_)
            · refine z_iload (j := 0) o dX2_workedOut_69 rfl ?_
              refine z_bipush (v := (-3)) o dX2_workedOut_71 (by decide) ?_
              refine z_icmpge (tgt := 119) o dX2_workedOut_73 (by decide) (fun c9 => ?_) (fun c9 => ?_)
              · refine z_iload (j := 2) o dX2_workedOut_119 rfl ?_
                refine z_aload_n (j := 3) o dX2_workedOut_121 rfl ?_
                refine zo_get (i := w) o hB dX2_workedOut_122 zf_X2_9 hw (by decide) (rfl) ?_
                refine zo_leni (i := w + 1) o hB dX2_workedOut_125 (zh_L1 hw) ?_
                refine zo_rw (y := nI 60) (by rw [(zh_L1n hw)]) ?_
                refine z_icmpge (tgt := 171) o dX2_workedOut_126 (by decide) (fun c10 => ?_) (fun c10 => ?_)
                · exact absurd (nI_lt (a := dp kq) (b := 60) (by omega) (by omega)) c10
                · refine z_aload_n (j := 3) o dX2_workedOut_129 rfl ?_
                  refine zo_get (i := w) o hB dX2_workedOut_130 zf_X2_9 hw (by decide) (rfl) ?_
                  refine z_iload (j := 2) o dX2_workedOut_133 rfl ?_
                  refine z_iload (j := 0) o dX2_workedOut_135 rfl ?_
                  refine z_iflt (tgt := 145) o dX2_workedOut_137 (by decide) (fun c11 => ?_) (fun c11 => ?_)
                  · refine z_iload (j := 0) o dX2_workedOut_145 rfl ?_
                    refine z_iconst (v := (-1)) o dX2_workedOut_147 (by decide) ?_
                    refine z_icmpne (tgt := 155) o dX2_workedOut_148 (by decide) (fun c12 => ?_) (fun c12 => ?_)
                    · exact absurd c12 (by decide)
                    · refine z_iload_n (j := 4) o dX2_workedOut_151 rfl ?_
                      refine z_goto (tgt := 167) o dX2_workedOut_152 (by decide) ?_
                      refine zo_iast (i := w + 1) (j := dp kq) o hB dX2_workedOut_167 (zh_L1 hw) (by rw [(zh_L1n hw)]; omega) (by rw [(zh_L1n hw)]; decide) ?_
                      rw [zu_va]
                      refine z_iinc (j := 2) (v := nI (dp kq + 1)) (lv2 := [(4, .int (nI (dp kq + 1))), (6, .int (-1)), (5, .int (nI kq)), (0, zref B w), (1, .int a), (2, .int b), (3, .int c)]) o dX2_workedOut_168 rfl (zn_ofInt _) (by decide) rfl ?_
                      refine z_iinc (j := 2) (v := nI (kq + 1)) (lv2 := [(5, .int (nI (kq + 1))), (4, .int (nI (dp kq + 1))), (6, .int (-1)), (0, zref B w), (1, .int a), (2, .int b), (3, .int c)]) o dX2_workedOut_171 rfl (zn_ofInt _) (by decide) rfl ?_
                      refine z_goto (tgt := 6) o dX2_workedOut_174 (by decide) ?_
                      refine zo_lv [0, 1, 3, 4, 5, 6] rfl ?_
                      have es : sp_wk (sp_A ρ u) (sp_W ρ u) (sp_fa a b c) (kq + 1) = a :: (sp_wk (sp_A ρ u) (sp_W ρ u) (sp_fa a b c) kq) := by show sp_stp _ _ _ _ = _; unfold sp_stp; rw [if_neg (by rw [e1]; decide), if_pos e1, ev, zn_nI (by decide)]; rfl
                      have hh := ih (kq + 1) (by omega) (upd P (dp kq) a) (by rw [es]; exact zPl_push hP hl _) (by rw [es]; rw [List.length_cons, hl]; omega)
                      rw [ed] at hh
                      exact hh
                  · exact absurd c11 (by decide)
              · exact absurd c9 (by decide)
            · exact absurd c8 (by decide)
        · refine z_iload (j := 0) o dX2_workedOut_6 rfl ?_
          refine z_aload_n (j := 2) o dX2_workedOut_8 rfl ?_
          refine zo_get (i := w) o hB dX2_workedOut_9 zf_X2_35 hw (by decide) (rfl) ?_
          refine zo_rw (y := nI L) (by rw [va_up_ne _ _ (by omega)]; exact hL) ?_
          refine z_icmpge (tgt := 177) o dX2_workedOut_12 (by decide) (fun c13 => ?_) (fun c13 => ?_)
          · exact absurd (nI_lt (a := kq) (b := L) (by omega) (by omega)) c13
          · refine z_aload_n (j := 2) o dX2_workedOut_15 rfl ?_
            refine zo_get (i := w) o hB dX2_workedOut_16 zf_X2_15 hw (by decide) (rfl) ?_
            refine z_iload (j := 0) o dX2_workedOut_19 rfl ?_
            refine zo_iald (i := w + 2) (j := kq) o hB dX2_workedOut_21 (zh_L2 hw) (by rw [(zh_L2n hw)]; omega) (by rw [(zh_L2n hw)]; decide) ?_
            refine zo_rw (y := M (w + 2) kq) (by rw [va_up_ne _ _ (by omega)]) ?_
            refine zo_rw (y := (-2)) (by rw [ec, ev]; decide) ?_
            refine z_istore (i := 6) (lv2 := [(6, .int (-2)), (5, .int (nI kq)), (4, .int (nI (dp kq))), (0, zref B w), (1, .int a), (2, .int b), (3, .int c)]) o dX2_workedOut_22 (by decide) rfl ?_
            refine z_iload (j := 0) o dX2_workedOut_24 rfl ?_
            refine z_bipush (v := (-33)) o dX2_workedOut_26 (by decide) ?_
            refine z_icmpne (tgt := 69) o dX2_workedOut_28 (by decide) (fun c14 => ?_) (fun c14 => ?_)
            · refine z_iload (j := 0) o dX2_workedOut_69 rfl ?_
              refine z_bipush (v := (-3)) o dX2_workedOut_71 (by decide) ?_
              refine z_icmpge (tgt := 119) o dX2_workedOut_73 (by decide) (fun c15 => ?_) (fun c15 => ?_)
              · refine z_iload (j := 2) o dX2_workedOut_119 rfl ?_
                refine z_aload_n (j := 3) o dX2_workedOut_121 rfl ?_
                refine zo_get (i := w) o hB dX2_workedOut_122 zf_X2_9 hw (by decide) (rfl) ?_
                refine zo_leni (i := w + 1) o hB dX2_workedOut_125 (zh_L1 hw) ?_
                refine zo_rw (y := nI 60) (by rw [(zh_L1n hw)]) ?_
                refine z_icmpge (tgt := 171) o dX2_workedOut_126 (by decide) (fun c16 => ?_) (fun c16 => ?_)
                · exact absurd (nI_lt (a := dp kq) (b := 60) (by omega) (by omega)) c16
                · refine z_aload_n (j := 3) o dX2_workedOut_129 rfl ?_
                  refine zo_get (i := w) o hB dX2_workedOut_130 zf_X2_9 hw (by decide) (rfl) ?_
                  refine z_iload (j := 2) o dX2_workedOut_133 rfl ?_
                  refine z_iload (j := 0) o dX2_workedOut_135 rfl ?_
                  refine z_iflt (tgt := 145) o dX2_workedOut_137 (by decide) (fun c17 => ?_) (fun c17 => ?_)
                  · refine z_iload (j := 0) o dX2_workedOut_145 rfl ?_
                    refine z_iconst (v := (-1)) o dX2_workedOut_147 (by decide) ?_
                    refine z_icmpne (tgt := 155) o dX2_workedOut_148 (by decide) (fun c18 => ?_) (fun c18 => ?_)
                    · refine z_iload (j := 0) o dX2_workedOut_155 rfl ?_
                      refine z_bipush (v := (-2)) o dX2_workedOut_157 (by decide) ?_
                      refine z_icmpne (tgt := 166) o dX2_workedOut_159 (by decide) (fun c19 => ?_) (fun c19 => ?_)
                      · exact absurd c19 (by decide)
                      · refine z_iload_n (j := 5) o dX2_workedOut_162 rfl ?_
                        refine z_goto (tgt := 167) o dX2_workedOut_163 (by decide) ?_
                        refine zo_iast (i := w + 1) (j := dp kq) o hB dX2_workedOut_167 (zh_L1 hw) (by rw [(zh_L1n hw)]; omega) (by rw [(zh_L1n hw)]; decide) ?_
                        rw [zu_va]
                        refine z_iinc (j := 2) (v := nI (dp kq + 1)) (lv2 := [(4, .int (nI (dp kq + 1))), (6, .int (-2)), (5, .int (nI kq)), (0, zref B w), (1, .int a), (2, .int b), (3, .int c)]) o dX2_workedOut_168 rfl (zn_ofInt _) (by decide) rfl ?_
                        refine z_iinc (j := 2) (v := nI (kq + 1)) (lv2 := [(5, .int (nI (kq + 1))), (4, .int (nI (dp kq + 1))), (6, .int (-2)), (0, zref B w), (1, .int a), (2, .int b), (3, .int c)]) o dX2_workedOut_171 rfl (zn_ofInt _) (by decide) rfl ?_
                        refine z_goto (tgt := 6) o dX2_workedOut_174 (by decide) ?_
                        refine zo_lv [0, 1, 3, 4, 5, 6] rfl ?_
                        have es : sp_wk (sp_A ρ u) (sp_W ρ u) (sp_fa a b c) (kq + 1) = b :: (sp_wk (sp_A ρ u) (sp_W ρ u) (sp_fa a b c) kq) := by show sp_stp _ _ _ _ = _; unfold sp_stp; rw [if_neg (by rw [e1]; decide), if_pos e1, ev, zn_nI (by decide)]; rfl
                        have hh := ih (kq + 1) (by omega) (upd P (dp kq) b) (by rw [es]; exact zPl_push hP hl _) (by rw [es]; rw [List.length_cons, hl]; omega)
                        rw [ed] at hh
                        exact hh
                    · exact absurd c18 (by decide)
                  · exact absurd c17 (by decide)
              · exact absurd c15 (by decide)
            · exact absurd c14 (by decide)
        · refine z_iload (j := 0) o dX2_workedOut_6 rfl ?_
          refine z_aload_n (j := 2) o dX2_workedOut_8 rfl ?_
          refine zo_get (i := w) o hB dX2_workedOut_9 zf_X2_35 hw (by decide) (rfl) ?_
          refine zo_rw (y := nI L) (by rw [va_up_ne _ _ (by omega)]; exact hL) ?_
          refine z_icmpge (tgt := 177) o dX2_workedOut_12 (by decide) (fun c20 => ?_) (fun c20 => ?_)
          · exact absurd (nI_lt (a := kq) (b := L) (by omega) (by omega)) c20
          · refine z_aload_n (j := 2) o dX2_workedOut_15 rfl ?_
            refine zo_get (i := w) o hB dX2_workedOut_16 zf_X2_15 hw (by decide) (rfl) ?_
            refine z_iload (j := 0) o dX2_workedOut_19 rfl ?_
            refine zo_iald (i := w + 2) (j := kq) o hB dX2_workedOut_21 (zh_L2 hw) (by rw [(zh_L2n hw)]; omega) (by rw [(zh_L2n hw)]; decide) ?_
            refine zo_rw (y := M (w + 2) kq) (by rw [va_up_ne _ _ (by omega)]) ?_
            refine zo_rw (y := (-3)) (by rw [ec, ev]; decide) ?_
            refine z_istore (i := 6) (lv2 := [(6, .int (-3)), (5, .int (nI kq)), (4, .int (nI (dp kq))), (0, zref B w), (1, .int a), (2, .int b), (3, .int c)]) o dX2_workedOut_22 (by decide) rfl ?_
            refine z_iload (j := 0) o dX2_workedOut_24 rfl ?_
            refine z_bipush (v := (-33)) o dX2_workedOut_26 (by decide) ?_
            refine z_icmpne (tgt := 69) o dX2_workedOut_28 (by decide) (fun c21 => ?_) (fun c21 => ?_)
            · refine z_iload (j := 0) o dX2_workedOut_69 rfl ?_
              refine z_bipush (v := (-3)) o dX2_workedOut_71 (by decide) ?_
              refine z_icmpge (tgt := 119) o dX2_workedOut_73 (by decide) (fun c22 => ?_) (fun c22 => ?_)
              · refine z_iload (j := 2) o dX2_workedOut_119 rfl ?_
                refine z_aload_n (j := 3) o dX2_workedOut_121 rfl ?_
                refine zo_get (i := w) o hB dX2_workedOut_122 zf_X2_9 hw (by decide) (rfl) ?_
                refine zo_leni (i := w + 1) o hB dX2_workedOut_125 (zh_L1 hw) ?_
                refine zo_rw (y := nI 60) (by rw [(zh_L1n hw)]) ?_
                refine z_icmpge (tgt := 171) o dX2_workedOut_126 (by decide) (fun c23 => ?_) (fun c23 => ?_)
                · exact absurd (nI_lt (a := dp kq) (b := 60) (by omega) (by omega)) c23
                · refine z_aload_n (j := 3) o dX2_workedOut_129 rfl ?_
                  refine zo_get (i := w) o hB dX2_workedOut_130 zf_X2_9 hw (by decide) (rfl) ?_
                  refine z_iload (j := 2) o dX2_workedOut_133 rfl ?_
                  refine z_iload (j := 0) o dX2_workedOut_135 rfl ?_
                  refine z_iflt (tgt := 145) o dX2_workedOut_137 (by decide) (fun c24 => ?_) (fun c24 => ?_)
                  · refine z_iload (j := 0) o dX2_workedOut_145 rfl ?_
                    refine z_iconst (v := (-1)) o dX2_workedOut_147 (by decide) ?_
                    refine z_icmpne (tgt := 155) o dX2_workedOut_148 (by decide) (fun c25 => ?_) (fun c25 => ?_)
                    · refine z_iload (j := 0) o dX2_workedOut_155 rfl ?_
                      refine z_bipush (v := (-2)) o dX2_workedOut_157 (by decide) ?_
                      refine z_icmpne (tgt := 166) o dX2_workedOut_159 (by decide) (fun c26 => ?_) (fun c26 => ?_)
                      · refine z_iload_n (j := 6) o dX2_workedOut_166 rfl ?_
                        refine zo_iast (i := w + 1) (j := dp kq) o hB dX2_workedOut_167 (zh_L1 hw) (by rw [(zh_L1n hw)]; omega) (by rw [(zh_L1n hw)]; decide) ?_
                        rw [zu_va]
                        refine z_iinc (j := 2) (v := nI (dp kq + 1)) (lv2 := [(4, .int (nI (dp kq + 1))), (6, .int (-3)), (5, .int (nI kq)), (0, zref B w), (1, .int a), (2, .int b), (3, .int c)]) o dX2_workedOut_168 rfl (zn_ofInt _) (by decide) rfl ?_
                        refine z_iinc (j := 2) (v := nI (kq + 1)) (lv2 := [(5, .int (nI (kq + 1))), (4, .int (nI (dp kq + 1))), (6, .int (-3)), (0, zref B w), (1, .int a), (2, .int b), (3, .int c)]) o dX2_workedOut_171 rfl (zn_ofInt _) (by decide) rfl ?_
                        refine z_goto (tgt := 6) o dX2_workedOut_174 (by decide) ?_
                        refine zo_lv [0, 1, 3, 4, 5, 6] rfl ?_
                        have es : sp_wk (sp_A ρ u) (sp_W ρ u) (sp_fa a b c) (kq + 1) = c :: (sp_wk (sp_A ρ u) (sp_W ρ u) (sp_fa a b c) kq) := by show sp_stp _ _ _ _ = _; unfold sp_stp; rw [if_neg (by rw [e1]; decide), if_pos e1, ev, zn_nI (by decide)]; rfl
                        have hh := ih (kq + 1) (by omega) (upd P (dp kq) c) (by rw [es]; exact zPl_push hP hl _) (by rw [es]; rw [List.length_cons, hl]; omega)
                        rw [ed] at hh
                        exact hh
                      · exact absurd c26 (by decide)
                    · exact absurd c25 (by decide)
                  · exact absurd c24 (by decide)
              · exact absurd c22 (by decide)
            · exact absurd c21 (by decide)
      · obtain ⟨e0, ed⟩ : 1 ≤ dp kq ∧ dp (kq + 1) = dp kq := by
          rcases hst kq hlt with ⟨q, -⟩ | ⟨q, -, -⟩ | ⟨-, q, w9⟩ | ⟨-, -, q, -, -⟩
          · rw [e1] at q; exact absurd q (by decide)
          · rw [e1] at q; exact absurd q (by decide)
          · exact ⟨q, w9⟩
          · exact absurd e1 q
        obtain ⟨y, t, el, ey, hy⟩ := zPl_one hP hl e0
        refine z_iload (j := 0) o dX2_workedOut_6 rfl ?_
        refine z_aload_n (j := 2) o dX2_workedOut_8 rfl ?_
        refine zo_get (i := w) o hB dX2_workedOut_9 zf_X2_35 hw (by decide) (rfl) ?_
        refine zo_rw (y := nI L) (by rw [va_up_ne _ _ (by omega)]; exact hL) ?_
        refine z_icmpge (tgt := 177) o dX2_workedOut_12 (by decide) (fun c27 => ?_) (fun c27 => ?_)
        · exact absurd (nI_lt (a := kq) (b := L) (by omega) (by omega)) c27
        · refine z_aload_n (j := 2) o dX2_workedOut_15 rfl ?_
          refine zo_get (i := w) o hB dX2_workedOut_16 zf_X2_15 hw (by decide) (rfl) ?_
          refine z_iload (j := 0) o dX2_workedOut_19 rfl ?_
          refine zo_iald (i := w + 2) (j := kq) o hB dX2_workedOut_21 (zh_L2 hw) (by rw [(zh_L2n hw)]; omega) (by rw [(zh_L2n hw)]; decide) ?_
          refine zo_rw (y := M (w + 2) kq) (by rw [va_up_ne _ _ (by omega)]) ?_
          refine zo_rw (y := (-33)) (ec) ?_
          refine z_istore (i := 6) (lv2 := [(6, .int (-33)), (5, .int (nI kq)), (4, .int (nI (dp kq))), (0, zref B w), (1, .int a), (2, .int b), (3, .int c)]) o dX2_workedOut_22 (by decide) rfl ?_
          refine z_iload (j := 0) o dX2_workedOut_24 rfl ?_
          refine z_bipush (v := (-33)) o dX2_workedOut_26 (by decide) ?_
          refine z_icmpne (tgt := 69) o dX2_workedOut_28 (by decide) (fun c28 => ?_) (fun c28 => ?_)
          · exact absurd c28 (by decide)
          · refine z_iload (j := 2) o dX2_workedOut_31 rfl ?_
            refine z_iconst (v := 1) o dX2_workedOut_33 (by decide) ?_
            refine z_icmplt (tgt := 171) o dX2_workedOut_34 (by decide) (fun c29 => ?_) (fun c29 => ?_)
            · exact absurd c29 (nI_nlt (a := dp kq) (b := 1) (by omega) (by omega))
            · refine z_aload_n (j := 3) o dX2_workedOut_37 rfl ?_
              refine zo_get (i := w) o hB dX2_workedOut_38 zf_X2_9 hw (by decide) (rfl) ?_
              refine z_iload (j := 2) o dX2_workedOut_41 rfl ?_
              refine z_iconst (v := 1) o dX2_workedOut_43 (by decide) ?_
              refine z_isub o dX2_workedOut_44 ?_
              refine zo_rw (y := nI (dp kq - 1)) (zn_sub (rfl) (rfl) (by omega)) ?_
              refine z_aload_n (j := 3) o dX2_workedOut_45 rfl ?_
              refine zo_get (i := w) o hB dX2_workedOut_46 zf_X2_9 hw (by decide) (rfl) ?_
              refine z_iload (j := 2) o dX2_workedOut_49 rfl ?_
              refine z_iconst (v := 1) o dX2_workedOut_51 (by decide) ?_
              refine z_isub o dX2_workedOut_52 ?_
              refine zo_rw (y := nI (dp kq - 1)) (zn_sub (rfl) (rfl) (by omega)) ?_
              refine zo_iald (i := w + 1) (j := dp kq - 1) o hB dX2_workedOut_53 (zh_L1 hw) (by rw [(zh_L1n hw)]; omega) (by rw [(zh_L1n hw)]; decide) ?_
              refine zo_rw (y := P (dp kq - 1)) (by rw [va_up_self]) ?_
              refine zo_rw (y := y) (ey) ?_
              refine z_ifne (tgt := 61) o dX2_workedOut_54 (by decide) (fun c30 => ?_) (fun c30 => ?_)
              · refine z_iconst (v := 0) o dX2_workedOut_61 (by decide) ?_
                refine z_callSi (As := [.int 0]) (n := 1) (st := [.int (nI (dp kq - 1)), zref B (w + 1)]) o dX2_workedOut_62 (c_X2_truth hB (va_up M (w + 1) P) N 0) zc_X2_50 (by decide) rfl rfl (Nat.le_of_ble_eq_true rfl) (fun r31 g32 p33 => ?_)
                obtain ⟨rfl, rfl⟩ := p33
                refine zo_rw (y := 0) (by decide) ?_
                refine zo_iast (i := w + 1) (j := dp kq - 1) o hB dX2_workedOut_65 (zh_L1 hw) (by rw [(zh_L1n hw)]; omega) (by rw [(zh_L1n hw)]; decide) ?_
                rw [zu_va]
                refine z_goto (tgt := 171) o dX2_workedOut_66 (by decide) ?_
                refine z_iinc (j := 1) (v := nI (kq + 1)) (lv2 := [(5, .int (nI (kq + 1))), (6, .int (-33)), (4, .int (nI (dp kq))), (0, zref B w), (1, .int a), (2, .int b), (3, .int c)]) o dX2_workedOut_171 rfl (zn_ofInt _) (by decide) rfl ?_
                refine z_goto (tgt := 6) o dX2_workedOut_174 (by decide) ?_
                refine zo_lv [0, 2, 3, 4, 5, 6] rfl ?_
                have es : sp_wk (sp_A ρ u) (sp_W ρ u) (sp_fa a b c) (kq + 1) = 0 :: t := by show sp_stp _ _ _ _ = _; unfold sp_stp; rw [if_neg (by rw [e1]; decide), if_neg (by rw [e1]; decide), if_pos e1, el]; show (if y = 0 then 1 else 0) :: t = _; rw [if_neg c30]
                have hh := ih (kq + 1) (by omega) (upd P (dp kq - 1) 0) (by rw [es]; exact (hy _).1) (by rw [es]; rw [ed]; exact (hy _).2)
                rw [ed] at hh
                exact hh
              · refine z_iconst (v := 1) o dX2_workedOut_57 (by decide) ?_
                refine z_goto (tgt := 62) o dX2_workedOut_58 (by decide) ?_
                refine z_callSi (As := [.int 1]) (n := 1) (st := [.int (nI (dp kq - 1)), zref B (w + 1)]) o dX2_workedOut_62 (c_X2_truth hB (va_up M (w + 1) P) N 1) zc_X2_50 (by decide) rfl rfl (Nat.le_of_ble_eq_true rfl) (fun r34 g35 p36 => ?_)
                obtain ⟨rfl, rfl⟩ := p36
                refine zo_rw (y := 1) (by decide) ?_
                refine zo_iast (i := w + 1) (j := dp kq - 1) o hB dX2_workedOut_65 (zh_L1 hw) (by rw [(zh_L1n hw)]; omega) (by rw [(zh_L1n hw)]; decide) ?_
                rw [zu_va]
                refine z_goto (tgt := 171) o dX2_workedOut_66 (by decide) ?_
                refine z_iinc (j := 1) (v := nI (kq + 1)) (lv2 := [(5, .int (nI (kq + 1))), (6, .int (-33)), (4, .int (nI (dp kq))), (0, zref B w), (1, .int a), (2, .int b), (3, .int c)]) o dX2_workedOut_171 rfl (zn_ofInt _) (by decide) rfl ?_
                refine z_goto (tgt := 6) o dX2_workedOut_174 (by decide) ?_
                refine zo_lv [0, 2, 3, 4, 5, 6] rfl ?_
                have es : sp_wk (sp_A ρ u) (sp_W ρ u) (sp_fa a b c) (kq + 1) = 1 :: t := by show sp_stp _ _ _ _ = _; unfold sp_stp; rw [if_neg (by rw [e1]; decide), if_neg (by rw [e1]; decide), if_pos e1, el]; show (if y = 0 then 1 else 0) :: t = _; rw [if_pos c30]
                have hh := ih (kq + 1) (by omega) (upd P (dp kq - 1) 1) (by rw [es]; exact (hy _).1) (by rw [es]; rw [ed]; exact (hy _).2)
                rw [ed] at hh
                exact hh
      · obtain ⟨n1, n2, n3, n4, n5⟩ := sig_ne hsg
        obtain ⟨e0, ed⟩ : 2 ≤ dp kq ∧ dp (kq + 1) = dp kq - 1 := by
          rcases hst kq hlt with ⟨q, -⟩ | ⟨q, -, -⟩ | ⟨q, -, -⟩ | ⟨-, -, -, q, w9⟩
          · exact absurd q n1
          · exact absurd q n2
          · exact absurd q n3
          · exact ⟨q, w9⟩
        obtain ⟨y, x, t, el, ey, ex, hy⟩ := zPl_two hP hl e0
        refine z_iload (j := 0) o dX2_workedOut_6 rfl ?_
        refine z_aload_n (j := 2) o dX2_workedOut_8 rfl ?_
        refine zo_get (i := w) o hB dX2_workedOut_9 zf_X2_35 hw (by decide) (rfl) ?_
        refine zo_rw (y := nI L) (by rw [va_up_ne _ _ (by omega)]; exact hL) ?_
        refine z_icmpge (tgt := 177) o dX2_workedOut_12 (by decide) (fun c37 => ?_) (fun c37 => ?_)
        · exact absurd (nI_lt (a := kq) (b := L) (by omega) (by omega)) c37
        · refine z_aload_n (j := 2) o dX2_workedOut_15 rfl ?_
          refine zo_get (i := w) o hB dX2_workedOut_16 zf_X2_15 hw (by decide) (rfl) ?_
          refine z_iload (j := 0) o dX2_workedOut_19 rfl ?_
          refine zo_iald (i := w + 2) (j := kq) o hB dX2_workedOut_21 (zh_L2 hw) (by rw [(zh_L2n hw)]; omega) (by rw [(zh_L2n hw)]; decide) ?_
          refine zo_rw (y := M (w + 2) kq) (by rw [va_up_ne _ _ (by omega)]) ?_
          refine zo_rw (y := -(ρ (282 + 121 * u + 1 + kq))) (ec) ?_
          refine z_istore (i := 6) (lv2 := [(6, .int (-(ρ (282 + 121 * u + 1 + kq)))), (5, .int (nI kq)), (4, .int (nI (dp kq))), (0, zref B w), (1, .int a), (2, .int b), (3, .int c)]) o dX2_workedOut_22 (by decide) rfl ?_
          refine z_iload (j := 0) o dX2_workedOut_24 rfl ?_
          refine z_bipush (v := (-33)) o dX2_workedOut_26 (by decide) ?_
          refine z_icmpne (tgt := 69) o dX2_workedOut_28 (by decide) (fun c38 => ?_) (fun c38 => ?_)
          · refine z_iload (j := 0) o dX2_workedOut_69 rfl ?_
            refine z_bipush (v := (-3)) o dX2_workedOut_71 (by decide) ?_
            refine z_icmpge (tgt := 119) o dX2_workedOut_73 (by decide) (fun c39 => ?_) (fun c39 => ?_)
            · exact absurd n5 c39
            · refine z_iload (j := 2) o dX2_workedOut_76 rfl ?_
              refine z_iconst (v := 2) o dX2_workedOut_78 (by decide) ?_
              refine z_icmplt (tgt := 171) o dX2_workedOut_79 (by decide) (fun c40 => ?_) (fun c40 => ?_)
              · exact absurd c40 (nI_nlt (a := dp kq) (b := 2) (by omega) (by omega))
              · refine z_iinc (j := 2) (v := nI (dp kq - 1)) (lv2 := [(4, .int (nI (dp kq - 1))), (6, .int (-(ρ (282 + 121 * u + 1 + kq)))), (5, .int (nI kq)), (0, zref B w), (1, .int a), (2, .int b), (3, .int c)]) o dX2_workedOut_82 rfl (zn_dec rfl (by omega)) (by decide) rfl ?_
                refine z_aload_n (j := 3) o dX2_workedOut_85 rfl ?_
                refine zo_get (i := w) o hB dX2_workedOut_86 zf_X2_9 hw (by decide) (rfl) ?_
                refine z_iload (j := 0) o dX2_workedOut_89 rfl ?_
                refine z_iconst (v := 1) o dX2_workedOut_91 (by decide) ?_
                refine z_isub o dX2_workedOut_92 ?_
                refine zo_rw (y := nI (dp kq - 1 - 1)) (zn_sub (rfl) (rfl) (by omega)) ?_
                refine z_iload (j := 1) o dX2_workedOut_93 rfl ?_
                refine z_ineg o dX2_workedOut_95 ?_
                refine zo_rw (y := ρ (282 + 121 * u + 1 + kq)) (Int32.neg_neg) ?_
                refine z_aload_n (j := 3) o dX2_workedOut_96 rfl ?_
                refine zo_get (i := w) o hB dX2_workedOut_97 zf_X2_9 hw (by decide) (rfl) ?_
                refine z_iload (j := 0) o dX2_workedOut_100 rfl ?_
                refine z_iconst (v := 1) o dX2_workedOut_102 (by decide) ?_
                refine z_isub o dX2_workedOut_103 ?_
                refine zo_rw (y := nI (dp kq - 1 - 1)) (zn_sub (rfl) (rfl) (by omega)) ?_
                refine zo_iald (i := w + 1) (j := dp kq - 1 - 1) o hB dX2_workedOut_104 (zh_L1 hw) (by rw [(zh_L1n hw)]; omega) (by rw [(zh_L1n hw)]; decide) ?_
                refine zo_rw (y := P (dp kq - 1 - 1)) (by rw [va_up_self]) ?_
                refine zo_rw (y := x) (ex) ?_
                refine z_aload_n (j := 3) o dX2_workedOut_105 rfl ?_
                refine zo_get (i := w) o hB dX2_workedOut_106 zf_X2_9 hw (by decide) (rfl) ?_
                refine z_iload (j := 0) o dX2_workedOut_109 rfl ?_
                refine zo_iald (i := w + 1) (j := dp kq - 1) o hB dX2_workedOut_111 (zh_L1 hw) (by rw [(zh_L1n hw)]; omega) (by rw [(zh_L1n hw)]; decide) ?_
                refine zo_rw (y := P (dp kq - 1)) (by rw [va_up_self]) ?_
                refine zo_rw (y := y) (ey) ?_
                refine z_callSi (As := [.int (ρ (282 + 121 * u + 1 + kq)), .int x, .int y]) (n := 3) (st := [.int (nI (dp kq - 1 - 1)), zref B (w + 1)]) o dX2_workedOut_112 (c_X2_joined hB (va_up M (w + 1) P) N (ρ (282 + 121 * u + 1 + kq)) x y) zc_X2_54 (by decide) rfl rfl (Nat.le_of_ble_eq_true rfl) (fun r41 g42 p43 => ?_)
                obtain ⟨rfl, rfl⟩ := p43
                refine zo_rw (y := sp_two (ρ (282 + 121 * u + 1 + kq)) x y) (cg_join_eq hsg _ _) ?_
                refine zo_iast (i := w + 1) (j := dp kq - 1 - 1) o hB dX2_workedOut_115 (zh_L1 hw) (by rw [(zh_L1n hw)]; omega) (by rw [(zh_L1n hw)]; decide) ?_
                rw [zu_va]
                refine z_goto (tgt := 171) o dX2_workedOut_116 (by decide) ?_
                refine z_iinc (j := 2) (v := nI (kq + 1)) (lv2 := [(5, .int (nI (kq + 1))), (4, .int (nI (dp kq - 1))), (6, .int (-(ρ (282 + 121 * u + 1 + kq)))), (0, zref B w), (1, .int a), (2, .int b), (3, .int c)]) o dX2_workedOut_171 rfl (zn_ofInt _) (by decide) rfl ?_
                refine z_goto (tgt := 6) o dX2_workedOut_174 (by decide) ?_
                refine zo_lv [0, 1, 3, 4, 5, 6] rfl ?_
                have es : sp_wk (sp_A ρ u) (sp_W ρ u) (sp_fa a b c) (kq + 1) = sp_two (ρ (282 + 121 * u + 1 + kq)) x y :: t := by show sp_stp _ _ _ _ = _; unfold sp_stp; rw [if_neg n1, if_neg n2, if_neg n3, el]; rfl
                have hh := ih (kq + 1) (by omega) (upd P (dp kq - 1 - 1) (sp_two (ρ (282 + 121 * u + 1 + kq)) x y)) (by rw [es]; exact (hy _).1) (by rw [es]; rw [ed]; exact (hy _).2)
                rw [ed] at hh
                exact hh
          · exact absurd c38 n4
  refine zo_lv [0, 1, 2, 3, 4, 5] rfl ?_
  have h0 : zW X B (zg B (va_up M (w + 1) (M (w + 1))) N) 6 [(5, .int (nI 0)), (4, .int (nI (dp 0))), (0, zref B w), (1, .int a), (2, .int b), (3, .int c)] [] := LOOP L 0 (by omega) (M (w + 1)) (fun j hj => by cases hj) (by rw [d0]; rfl)
  rw [va_up_id, d0] at h0
  exact h0

