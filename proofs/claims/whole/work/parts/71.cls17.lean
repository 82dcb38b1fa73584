/-! the class: a Range is copied; the names of a use -/
set_option maxHeartbeats 4000000 in
set_option maxRecDepth 100000 in
theorem c_X3_takeAll {B : zB} (hB : znn B = 95) (M : zM) (N : zN) (r r2 : Nat) (ρ : Nat → Int32) (hR : zsh r = 2) (hR2 : zsh r2 = 2) (hrr : r + 22 ≤ r2 ∨ r2 + 22 ≤ r) (hok : zOkAll ρ) (hg : zRg r2 M N ρ) (hu : ∀ u, u < 2 → M (r + 16 + 3 * u) 0 = nI u) : zCv B (zg B M N) yX3_takeAll cX3_takeAll 3 none 2 [zref B r, zref B r2] (fun g' => ∃ (M1 : zM) (N1 : zN), g' = zg B M1 N1 ∧ zFr r M M1 ∧ zFrN r N N1 ∧ zRg r M1 N1 ρ) := by
  refine zCv_of (by decide +kernel) (Nat.le_of_ble_eq_true rfl) ?_
  intro X o kret
  show zW X B (zg B M N) 0 [(0, zref B r), (1, zref B r2)] []
  obtain ⟨⟨ha1, ha4, ha7, ha8, ha10, ha13⟩, hgf, hgc, hgs, hgw, hgt, hgq, hgl⟩ := hg
  obtain ⟨hL0, hL60a, -⟩ := zOkAll_u hok (u := 0) (by decide)
  obtain ⟨hL1, hL60b, -⟩ := zOkAll_u hok (u := 1) (by decide)
  refine z_iconst (v := 0) o dX3_takeAll_0 (by decide) ?_
  refine z_istore_n (i := 2) (lv2 := [(2, .int 0), (0, zref B r), (1, zref B r2)]) o dX3_takeAll_1 rfl (by decide) rfl ?_
  have LOOP : ∀ nq kq : Nat, kq + nq = 4 → ∀ M1 : zM, zFr r M M1 → (∀ i, i < kq → zFn (r + 8 + 2 * i) M1 ρ i) → (∀ j, j < r + 8 ∨ r + 16 ≤ j → M1 j = M j) → zW X B (zg B M1 N) 2 [(2, .int (nI kq)), (0, zref B r), (1, zref B r2)] [] := by
    intro nq
    induction nq with
    | zero =>
      intro kq hkq M1 h1 hb1 hs1
      obtain rfl : kq = 4 := by omega
      refine z_iload_n (j := 0) o dX3_takeAll_2 rfl ?_
      refine z_iconst (v := 4) o dX3_takeAll_3 (by decide) ?_
      refine z_icmpge (tgt := 28) o dX3_takeAll_4 (by decide) (fun c1 => ?_) (fun c1 => ?_)
      · refine z_aload_n (j := 1) o dX3_takeAll_28 rfl ?_
        refine z_aload_n (j := 2) o dX3_takeAll_29 rfl ?_
        refine zo_get (i := r2) o hB dX3_takeAll_30 zf_X3_51 hR2 (by decide) (rfl) ?_
        refine zo_rw (y := ρ 2) ((by rw [h1 r2 (by omega)]; exact ha1)) ?_
        refine zo_put (i := r) o hB dX3_takeAll_33 zp_X3_51 hR (by decide) (by decide) (Nat.le_of_ble_eq_true rfl) ?_
        refine zo_nm (fun M2 hM2 => ?_)
        have fM2 : zFr r M M2 := by rw [hM2]; exact h1.zu ⟨by omega, by omega⟩
        refine z_aload_n (j := 2) o dX3_takeAll_36 rfl ?_
        refine zo_get (i := r2) o hB dX3_takeAll_37 zf_X3_15 hR2 (by decide) (rfl) ?_
        refine z_iconst (v := 0) o dX3_takeAll_40 (by decide) ?_
        refine z_aload_n (j := 1) o dX3_takeAll_41 rfl ?_
        refine zo_get (i := r) o hB dX3_takeAll_42 zf_X3_15 hR (by decide) (rfl) ?_
        refine z_iconst (v := 0) o dX3_takeAll_45 (by decide) ?_
        refine z_bipush (v := 6) o dX3_takeAll_46 (by decide) ?_
        refine z_copyi (i0 := r2 + 2) (i1 := r + 2) o dX3_takeAll_48 zm_X3_54 zn_ac zn_as zn_ai (by rw [hB]; exact zsh_lt (zh_R hR2).2.1 (by decide)) (by rw [hB]; exact zsh_lt (zh_R hR).2.1 (by decide)) (zg_i (zh_R hR2).2.1) (zg_i (zh_R hR).2.1) (by decide) (by decide) (by decide) (by rw [(zh_R hR2).2.2.2.2.2.2.2.2.2.2.1]; decide) (by rw [(zh_R hR).2.2.2.2.2.2.2.2.2.2.1]; decide) (by decide) (Nat.le_of_ble_eq_true rfl) ?_
        rw [zg_ist (zh_R hR).2.1]
        refine zo_nm (fun M3 hM3 => ?_)
        have fM3 : zFr r M M3 := by rw [hM3]; exact fM2.va ⟨by omega, by omega⟩
        refine z_aload_n (j := 2) o dX3_takeAll_51 rfl ?_
        refine zo_get (i := r2) o hB dX3_takeAll_52 zf_X3_19 hR2 (by decide) (rfl) ?_
        refine z_iconst (v := 0) o dX3_takeAll_55 (by decide) ?_
        refine z_aload_n (j := 1) o dX3_takeAll_56 rfl ?_
        refine zo_get (i := r) o hB dX3_takeAll_57 zf_X3_19 hR (by decide) (rfl) ?_
        refine z_iconst (v := 0) o dX3_takeAll_60 (by decide) ?_
        refine z_bipush (v := 6) o dX3_takeAll_61 (by decide) ?_
        refine z_copyi (i0 := r2 + 3) (i1 := r + 3) o dX3_takeAll_63 zm_X3_54 zn_ac zn_as zn_ai (by rw [hB]; exact zsh_lt (zh_R hR2).2.2.1 (by decide)) (by rw [hB]; exact zsh_lt (zh_R hR).2.2.1 (by decide)) (zg_i (zh_R hR2).2.2.1) (zg_i (zh_R hR).2.2.1) (by decide) (by decide) (by decide) (by rw [(zh_R hR2).2.2.2.2.2.2.2.2.2.2.2.1]; decide) (by rw [(zh_R hR).2.2.2.2.2.2.2.2.2.2.2.1]; decide) (by decide) (Nat.le_of_ble_eq_true rfl) ?_
        rw [zg_ist (zh_R hR).2.2.1]
        refine zo_nm (fun M4 hM4 => ?_)
        have fM4 : zFr r M M4 := by rw [hM4]; exact fM3.va ⟨by omega, by omega⟩
        refine z_aload_n (j := 1) o dX3_takeAll_66 rfl ?_
        refine z_aload_n (j := 2) o dX3_takeAll_67 rfl ?_
        refine zo_get (i := r2) o hB dX3_takeAll_68 zf_X3_60 hR2 (by decide) (rfl) ?_
        refine zo_rw (y := ρ 3) ((by rw [fM4 r2 (by omega)]; exact ha4)) ?_
        refine zo_put (i := r) o hB dX3_takeAll_71 zp_X3_60 hR (by decide) (by decide) (Nat.le_of_ble_eq_true rfl) ?_
        refine zo_nm (fun M5 hM5 => ?_)
        have fM5 : zFr r M M5 := by rw [hM5]; exact fM4.zu ⟨by omega, by omega⟩
        refine z_aload_n (j := 1) o dX3_takeAll_74 rfl ?_
        refine z_aload_n (j := 2) o dX3_takeAll_75 rfl ?_
        refine zo_get (i := r2) o hB dX3_takeAll_76 zf_X3_63 hR2 (by decide) (rfl) ?_
        refine zo_putl (i := r) o hB dX3_takeAll_79 zp_X3_63 hR (by decide) ?_
        refine zo_nn (fun N6 hN6 => ?_)
        refine z_aload_n (j := 1) o dX3_takeAll_82 rfl ?_
        refine z_aload_n (j := 2) o dX3_takeAll_83 rfl ?_
        refine zo_get (i := r2) o hB dX3_takeAll_84 zf_X3_67 hR2 (by decide) (rfl) ?_
        refine zo_putl (i := r) o hB dX3_takeAll_87 zp_X3_67 hR (by decide) ?_
        refine zo_nn (fun N7 hN7 => ?_)
        refine z_aload_n (j := 1) o dX3_takeAll_90 rfl ?_
        refine z_aload_n (j := 2) o dX3_takeAll_91 rfl ?_
        refine zo_get (i := r2) o hB dX3_takeAll_92 zf_X3_70 hR2 (by decide) (rfl) ?_
        refine zo_rw (y := ρ 0) ((by rw [fM5 r2 (by omega)]; exact ha7)) ?_
        refine zo_put (i := r) o hB dX3_takeAll_95 zp_X3_70 hR (by decide) (by decide) (Nat.le_of_ble_eq_true rfl) ?_
        refine zo_nm (fun M8 hM8 => ?_)
        have fM8 : zFr r M M8 := by rw [hM8]; exact fM5.zu ⟨by omega, by omega⟩
        refine z_aload_n (j := 1) o dX3_takeAll_98 rfl ?_
        refine z_aload_n (j := 2) o dX3_takeAll_99 rfl ?_
        refine zo_get (i := r2) o hB dX3_takeAll_100 zf_X3_22 hR2 (by decide) (rfl) ?_
        refine zo_rw (y := ρ 1) ((by rw [fM8 r2 (by omega)]; exact ha8)) ?_
        refine zo_put (i := r) o hB dX3_takeAll_103 zp_X3_22 hR (by decide) (by decide) (Nat.le_of_ble_eq_true rfl) ?_
        refine zo_nm (fun M9 hM9 => ?_)
        have fM9 : zFr r M M9 := by rw [hM9]; exact fM8.zu ⟨by omega, by omega⟩
        refine z_aload_n (j := 2) o dX3_takeAll_106 rfl ?_
        refine zo_get (i := r2) o hB dX3_takeAll_107 zf_X3_26 hR2 (by decide) (rfl) ?_
        refine z_iconst (v := 0) o dX3_takeAll_110 (by decide) ?_
        refine z_aload_n (j := 1) o dX3_takeAll_111 rfl ?_
        refine zo_get (i := r) o hB dX3_takeAll_112 zf_X3_26 hR (by decide) (rfl) ?_
        refine z_iconst (v := 0) o dX3_takeAll_115 (by decide) ?_
        refine z_bipush (v := 60) o dX3_takeAll_116 (by decide) ?_
        refine z_copyb (i0 := r2 + 4) (i1 := r + 4) o dX3_takeAll_118 zm_X3_54 zn_ac zn_as zn_ai (by rw [hB]; exact zsh_lt (zh_R hR2).2.2.2.1 (by decide)) (by rw [hB]; exact zsh_lt (zh_R hR).2.2.2.1 (by decide)) (zg_b (zh_R hR2).2.2.2.1) (zg_b (zh_R hR).2.2.2.1) (sp := 0) (dp := 0) (n := 60) (by decide) (by decide) (by decide) (by rw [(zh_R hR2).2.2.2.2.2.2.2.2.2.2.2.2.1]; decide) (by rw [(zh_R hR).2.2.2.2.2.2.2.2.2.2.2.2.1]; decide) (fun k hk => by rw [show (Int32.toNatClampNeg 0 + k) = k from Nat.zero_add k, fM9 (r2 + 4) (by omega), hgt k hk]; exact by_fits _) (by decide) (Nat.le_of_ble_eq_true rfl) ?_
        rw [zg_bst (zh_R hR).2.2.2.1]
        refine zo_nm (fun M10 hM10 => ?_)
        have fM10 : zFr r M M10 := by rw [hM10]; exact fM9.va ⟨by omega, by omega⟩
        refine z_aload_n (j := 1) o dX3_takeAll_121 rfl ?_
        refine z_aload_n (j := 2) o dX3_takeAll_122 rfl ?_
        refine zo_get (i := r2) o hB dX3_takeAll_123 zf_X3_73 hR2 (by decide) (rfl) ?_
        refine zo_rw (y := ρ 4) ((by rw [fM10 r2 (by omega)]; exact ha10)) ?_
        refine zo_put (i := r) o hB dX3_takeAll_126 zp_X3_73 hR (by decide) (by decide) (Nat.le_of_ble_eq_true rfl) ?_
        refine zo_nm (fun M11 hM11 => ?_)
        have fM11 : zFr r M M11 := by rw [hM11]; exact fM10.zu ⟨by omega, by omega⟩
        refine z_iconst (v := 0) o dX3_takeAll_129 (by decide) ?_
        refine z_istore_n (i := 2) (lv2 := [(2, .int 0), (0, zref B r), (1, zref B r2)]) o dX3_takeAll_130 rfl (by decide) rfl ?_
        refine z_iload_n (j := 0) o dX3_takeAll_131 rfl ?_
        refine z_aload_n (j := 1) o dX3_takeAll_132 rfl ?_
        refine zo_get (i := r) o hB dX3_takeAll_133 zf_X3_32 hR (by decide) (rfl) ?_
        refine zo_lenL (i := r + 5) o hB dX3_takeAll_136 (zh_R hR).2.2.2.2.1 ?_
        refine zo_rw (y := nI 2) (by rw [(zh_R hR).2.2.2.2.2.2.2.2.2.2.2.2.2.1]) ?_
        refine zo_rw (y := 2) rfl ?_
        refine z_icmpge (tgt := 173) o dX3_takeAll_137 (by decide) (fun c12 => ?_) (fun c12 => ?_)
        · exact absurd c12 (by decide)
        · refine z_aload_n (j := 1) o dX3_takeAll_140 rfl ?_
          refine zo_get (i := r) o hB dX3_takeAll_141 zf_X3_32 hR (by decide) (rfl) ?_
          refine z_iload_n (j := 0) o dX3_takeAll_144 rfl ?_
          refine zo_aldL (i := r + 5) (j := 0) o hB dX3_takeAll_145 (zh_R hR).2.2.2.2.1 (by rw [(zh_R hR).2.2.2.2.2.2.2.2.2.2.2.2.2.1]; omega) (by rw [(zh_R hR).2.2.2.2.2.2.2.2.2.2.2.2.2.1]; decide) ?_
          refine z_aload_n (j := 2) o dX3_takeAll_146 rfl ?_
          refine zo_get (i := r2) o hB dX3_takeAll_147 zf_X3_32 hR2 (by decide) (rfl) ?_
          refine z_iload_n (j := 0) o dX3_takeAll_150 rfl ?_
          refine zo_aldL (i := r2 + 5) (j := 0) o hB dX3_takeAll_151 (zh_R hR2).2.2.2.2.1 (by rw [(zh_R hR2).2.2.2.2.2.2.2.2.2.2.2.2.2.1]; omega) (by rw [(zh_R hR2).2.2.2.2.2.2.2.2.2.2.2.2.2.1]; decide) ?_
          refine zo_get (i := r2 + 16) o hB dX3_takeAll_152 zf_X3_76 ((zh_R hR2).2.2.2.2.2.2.2.2.1 0 (by omega)) (by decide) (rfl) ?_
          refine z_aload_n (j := 2) o dX3_takeAll_155 rfl ?_
          refine zo_get (i := r2) o hB dX3_takeAll_156 zf_X3_32 hR2 (by decide) (rfl) ?_
          refine z_iload_n (j := 0) o dX3_takeAll_159 rfl ?_
          refine zo_aldL (i := r2 + 5) (j := 0) o hB dX3_takeAll_160 (zh_R hR2).2.2.2.2.1 (by rw [(zh_R hR2).2.2.2.2.2.2.2.2.2.2.2.2.2.1]; omega) (by rw [(zh_R hR2).2.2.2.2.2.2.2.2.2.2.2.2.2.1]; decide) ?_
          refine zo_get (i := r2 + 16) o hB dX3_takeAll_161 zf_X3_79 ((zh_R hR2).2.2.2.2.2.2.2.2.1 0 (by omega)) (by decide) (rfl) ?_
          refine zo_rw (y := nI (sp_len ρ 0)) ((by rw [fM11 (r2 + 16) (by omega)]; exact (hgl 0 (by decide)).2.1.trans hL0)) ?_
          refine z_callVv (As := [zref B (r2 + 16 + 2), .int (nI (sp_len ρ 0))]) (n := 2) (st := []) o dX3_takeAll_164 (c_X2_takeCode hB M11 N7 (r + 16) (r2 + 16 + 2) (sp_len ρ 0) ((zh_R hR).2.2.2.2.2.2.2.2.1 0 (by omega)) (zh_L2 ((zh_R hR2).2.2.2.2.2.2.2.2.1 0 (by omega))) (zh_L2n ((zh_R hR2).2.2.2.2.2.2.2.2.1 0 (by omega))) hL60a (by omega) (by omega)) zc_X3_82 (by decide) (i := r + 16) (by rw [hB]; exact zsh_lt ((zh_R hR).2.2.2.2.2.2.2.2.1 0 (by omega)) (by decide)) (zg_o ((zh_R hR).2.2.2.2.2.2.2.2.1 0 (by omega)) (by decide)) rfl rfl rfl (Nat.le_of_ble_eq_true rfl) (fun g14 p15 => ?_)
          cases p15
          refine zo_nm (fun M16 hM16 => ?_)
          have fM16 : zFr r M M16 := fun j hj => by rw [hM16, tc_ne (by omega) (by omega)]; exact fM11 j hj
          refine z_iinc (j := 0) (v := 1) (lv2 := [(2, .int 1), (0, zref B r), (1, zref B r2)]) o dX3_takeAll_167 rfl (by decide) (by decide) rfl ?_
          refine z_goto (tgt := 131) o dX3_takeAll_170 (by decide) ?_
          refine z_iload_n (j := 0) o dX3_takeAll_131 rfl ?_
          refine z_aload_n (j := 1) o dX3_takeAll_132 rfl ?_
          refine zo_get (i := r) o hB dX3_takeAll_133 zf_X3_32 hR (by decide) (rfl) ?_
          refine zo_lenL (i := r + 5) o hB dX3_takeAll_136 (zh_R hR).2.2.2.2.1 ?_
          refine zo_rw (y := nI 2) (by rw [(zh_R hR).2.2.2.2.2.2.2.2.2.2.2.2.2.1]) ?_
          refine zo_rw (y := 2) rfl ?_
          refine z_icmpge (tgt := 173) o dX3_takeAll_137 (by decide) (fun c17 => ?_) (fun c17 => ?_)
          · exact absurd c17 (by decide)
          · refine z_aload_n (j := 1) o dX3_takeAll_140 rfl ?_
            refine zo_get (i := r) o hB dX3_takeAll_141 zf_X3_32 hR (by decide) (rfl) ?_
            refine z_iload_n (j := 0) o dX3_takeAll_144 rfl ?_
            refine zo_aldL (i := r + 5) (j := 1) o hB dX3_takeAll_145 (zh_R hR).2.2.2.2.1 (by rw [(zh_R hR).2.2.2.2.2.2.2.2.2.2.2.2.2.1]; omega) (by rw [(zh_R hR).2.2.2.2.2.2.2.2.2.2.2.2.2.1]; decide) ?_
            refine z_aload_n (j := 2) o dX3_takeAll_146 rfl ?_
            refine zo_get (i := r2) o hB dX3_takeAll_147 zf_X3_32 hR2 (by decide) (rfl) ?_
            refine z_iload_n (j := 0) o dX3_takeAll_150 rfl ?_
            refine zo_aldL (i := r2 + 5) (j := 1) o hB dX3_takeAll_151 (zh_R hR2).2.2.2.2.1 (by rw [(zh_R hR2).2.2.2.2.2.2.2.2.2.2.2.2.2.1]; omega) (by rw [(zh_R hR2).2.2.2.2.2.2.2.2.2.2.2.2.2.1]; decide) ?_
            refine zo_get (i := r2 + 19) o hB dX3_takeAll_152 zf_X3_76 ((zh_R hR2).2.2.2.2.2.2.2.2.1 1 (by omega)) (by decide) (rfl) ?_
            refine z_aload_n (j := 2) o dX3_takeAll_155 rfl ?_
            refine zo_get (i := r2) o hB dX3_takeAll_156 zf_X3_32 hR2 (by decide) (rfl) ?_
            refine z_iload_n (j := 0) o dX3_takeAll_159 rfl ?_
            refine zo_aldL (i := r2 + 5) (j := 1) o hB dX3_takeAll_160 (zh_R hR2).2.2.2.2.1 (by rw [(zh_R hR2).2.2.2.2.2.2.2.2.2.2.2.2.2.1]; omega) (by rw [(zh_R hR2).2.2.2.2.2.2.2.2.2.2.2.2.2.1]; decide) ?_
            refine zo_get (i := r2 + 19) o hB dX3_takeAll_161 zf_X3_79 ((zh_R hR2).2.2.2.2.2.2.2.2.1 1 (by omega)) (by decide) (rfl) ?_
            refine zo_rw (y := nI (sp_len ρ 1)) ((by rw [fM16 (r2 + 19) (by omega)]; exact (hgl 1 (by decide)).2.1.trans hL1)) ?_
            refine z_callVv (As := [zref B (r2 + 19 + 2), .int (nI (sp_len ρ 1))]) (n := 2) (st := []) o dX3_takeAll_164 (c_X2_takeCode hB M16 N7 (r + 19) (r2 + 19 + 2) (sp_len ρ 1) ((zh_R hR).2.2.2.2.2.2.2.2.1 1 (by omega)) (zh_L2 ((zh_R hR2).2.2.2.2.2.2.2.2.1 1 (by omega))) (zh_L2n ((zh_R hR2).2.2.2.2.2.2.2.2.1 1 (by omega))) hL60b (by omega) (by omega)) zc_X3_82 (by decide) (i := r + 19) (by rw [hB]; exact zsh_lt ((zh_R hR).2.2.2.2.2.2.2.2.1 1 (by omega)) (by decide)) (zg_o ((zh_R hR).2.2.2.2.2.2.2.2.1 1 (by omega)) (by decide)) rfl rfl rfl (Nat.le_of_ble_eq_true rfl) (fun g19 p20 => ?_)
            cases p20
            refine zo_nm (fun M21 hM21 => ?_)
            have fM21 : zFr r M M21 := fun j hj => by rw [hM21, tc_ne (by omega) (by omega)]; exact fM16 j hj
            refine z_iinc (j := 0) (v := 2) (lv2 := [(2, .int 2), (0, zref B r), (1, zref B r2)]) o dX3_takeAll_167 rfl (by decide) (by decide) rfl ?_
            refine z_goto (tgt := 131) o dX3_takeAll_170 (by decide) ?_
            refine z_iload_n (j := 0) o dX3_takeAll_131 rfl ?_
            refine z_aload_n (j := 1) o dX3_takeAll_132 rfl ?_
            refine zo_get (i := r) o hB dX3_takeAll_133 zf_X3_32 hR (by decide) (rfl) ?_
            refine zo_lenL (i := r + 5) o hB dX3_takeAll_136 (zh_R hR).2.2.2.2.1 ?_
            refine zo_rw (y := nI 2) (by rw [(zh_R hR).2.2.2.2.2.2.2.2.2.2.2.2.2.1]) ?_
            refine zo_rw (y := 2) rfl ?_
            refine z_icmpge (tgt := 173) o dX3_takeAll_137 (by decide) (fun c22 => ?_) (fun c22 => ?_)
            · refine z_aload_n (j := 2) o dX3_takeAll_173 rfl ?_
              refine zo_get (i := r2) o hB dX3_takeAll_174 zf_X3_36 hR2 (by decide) (rfl) ?_
              refine z_iconst (v := 0) o dX3_takeAll_177 (by decide) ?_
              refine z_aload_n (j := 1) o dX3_takeAll_178 rfl ?_
              refine zo_get (i := r) o hB dX3_takeAll_179 zf_X3_36 hR (by decide) (rfl) ?_
              refine z_iconst (v := 0) o dX3_takeAll_182 (by decide) ?_
              refine z_bipush (v := 24) o dX3_takeAll_183 (by decide) ?_
              refine z_copyi (i0 := r2 + 6) (i1 := r + 6) o dX3_takeAll_185 zm_X3_54 zn_ac zn_as zn_ai (by rw [hB]; exact zsh_lt (zh_R hR2).2.2.2.2.2.1 (by decide)) (by rw [hB]; exact zsh_lt (zh_R hR).2.2.2.2.2.1 (by decide)) (zg_i (zh_R hR2).2.2.2.2.2.1) (zg_i (zh_R hR).2.2.2.2.2.1) (by decide) (by decide) (by decide) (by rw [(zh_R hR2).2.2.2.2.2.2.2.2.2.2.2.2.2.2.1]; decide) (by rw [(zh_R hR).2.2.2.2.2.2.2.2.2.2.2.2.2.2.1]; decide) (by decide) (Nat.le_of_ble_eq_true rfl) ?_
              rw [zg_ist (zh_R hR).2.2.2.2.2.1]
              refine zo_nm (fun M23 hM23 => ?_)
              have fM23 : zFr r M M23 := by rw [hM23]; exact fM21.va ⟨by omega, by omega⟩
              refine z_aload_n (j := 1) o dX3_takeAll_188 rfl ?_
              refine z_aload_n (j := 2) o dX3_takeAll_189 rfl ?_
              refine zo_get (i := r2) o hB dX3_takeAll_190 zf_X3_86 hR2 (by decide) (rfl) ?_
              refine zo_rw (y := ρ 5) ((by rw [fM23 r2 (by omega)]; exact ha13)) ?_
              refine zo_put (i := r) o hB dX3_takeAll_193 zp_X3_86 hR (by decide) (by decide) (Nat.le_of_ble_eq_true rfl) ?_
              refine zo_nm (fun M24 hM24 => ?_)
              have fM24 : zFr r M M24 := by rw [hM24]; exact fM23.zu ⟨by omega, by omega⟩
              have G1 : ∀ j, (r + 8 ≤ j ∧ j < r + 16) → M24 j = M1 j := fun j hj => by
                rw [hM24, zu_ne (by omega), hM23, va_up_ne _ _ (by omega), hM21, tc_ne (by omega) (by omega), hM16, tc_ne (by omega) (by omega), hM11, zu_ne (by omega), hM10, va_up_ne _ _ (by omega), hM9, zu_ne (by omega), hM8, zu_ne (by omega), hM5, zu_ne (by omega), hM4, va_up_ne _ _ (by omega), hM3, va_up_ne _ _ (by omega), hM2, zu_ne (by omega)]
              have E1 : M24 r 1 = ρ 2 := by rw [hM24, zu_at, upd_ne (by decide), hM23, va_up_ne _ _ (by omega), hM21, tc_ne (by omega) (by omega), hM16, tc_ne (by omega) (by omega), hM11, zu_at, upd_ne (by decide), hM10, va_up_ne _ _ (by omega), hM9, zu_at, upd_ne (by decide), hM8, zu_at, upd_ne (by decide), hM5, zu_at, upd_ne (by decide), hM4, va_up_ne _ _ (by omega), hM3, va_up_ne _ _ (by omega), hM2, zu_at, upd_self]
              have E4 : M24 r 4 = ρ 3 := by rw [hM24, zu_at, upd_ne (by decide), hM23, va_up_ne _ _ (by omega), hM21, tc_ne (by omega) (by omega), hM16, tc_ne (by omega) (by omega), hM11, zu_at, upd_ne (by decide), hM10, va_up_ne _ _ (by omega), hM9, zu_at, upd_ne (by decide), hM8, zu_at, upd_ne (by decide), hM5, zu_at, upd_self]
              have E7 : M24 r 7 = ρ 0 := by rw [hM24, zu_at, upd_ne (by decide), hM23, va_up_ne _ _ (by omega), hM21, tc_ne (by omega) (by omega), hM16, tc_ne (by omega) (by omega), hM11, zu_at, upd_ne (by decide), hM10, va_up_ne _ _ (by omega), hM9, zu_at, upd_ne (by decide), hM8, zu_at, upd_self]
              have E8 : M24 r 8 = ρ 1 := by rw [hM24, zu_at, upd_ne (by decide), hM23, va_up_ne _ _ (by omega), hM21, tc_ne (by omega) (by omega), hM16, tc_ne (by omega) (by omega), hM11, zu_at, upd_ne (by decide), hM10, va_up_ne _ _ (by omega), hM9, zu_at, upd_self]
              have E10 : M24 r 10 = ρ 4 := by rw [hM24, zu_at, upd_ne (by decide), hM23, va_up_ne _ _ (by omega), hM21, tc_ne (by omega) (by omega), hM16, tc_ne (by omega) (by omega), hM11, zu_at, upd_self]
              have E13 : M24 r 13 = ρ 5 := by rw [hM24, zu_at, upd_self]
              have C0 : ∀ k, k < 6 → M24 (r + 2) k = ρ (58 + 2 * k) := fun k hk => by
                rw [hM24, zu_ne (by omega), hM23, va_up_ne _ _ (by omega), hM21, tc_ne (by omega) (by omega), hM16, tc_ne (by omega) (by omega), hM11, zu_ne (by omega), hM10, va_up_ne _ _ (by omega), hM9, zu_ne (by omega), hM8, zu_ne (by omega), hM5, zu_ne (by omega), hM4, va_up_ne _ _ (by omega), hM3, va_up_self, show va_cpy (M2 (r2 + 2)) (M2 (r + 2)) (Int32.toNatClampNeg 0) (Int32.toNatClampNeg 0) (Int32.toNatClampNeg 6) k = M2 (r2 + 2) k from va_cpy0 hk, fM2 _ (by omega)]; exact (hgc k hk).1
              have C1 : ∀ k, k < 6 → M24 (r + 3) k = ρ (58 + 2 * k + 1) := fun k hk => by
                rw [hM24, zu_ne (by omega), hM23, va_up_ne _ _ (by omega), hM21, tc_ne (by omega) (by omega), hM16, tc_ne (by omega) (by omega), hM11, zu_ne (by omega), hM10, va_up_ne _ _ (by omega), hM9, zu_ne (by omega), hM8, zu_ne (by omega), hM5, zu_ne (by omega), hM4, va_up_self, show va_cpy (M3 (r2 + 3)) (M3 (r + 3)) (Int32.toNatClampNeg 0) (Int32.toNatClampNeg 0) (Int32.toNatClampNeg 6) k = M3 (r2 + 3) k from va_cpy0 hk, fM3 _ (by omega)]; exact (hgc k hk).2
              have Tp : ∀ k, k < 60 → M24 (r + 4) k = (ρ (198 + k)).toInt8.toInt32 := fun k hk => by
                rw [hM24, zu_ne (by omega), hM23, va_up_ne _ _ (by omega), hM21, tc_ne (by omega) (by omega), hM16, tc_ne (by omega) (by omega), hM11, zu_ne (by omega), hM10, va_up_self, show va_cpy (M9 (r2 + 4)) (M9 (r + 4)) (Int32.toNatClampNeg 0) (Int32.toNatClampNeg 0) (Int32.toNatClampNeg 60) k = M9 (r2 + 4) k from va_cpy0 hk, fM9 _ (by omega)]; exact hgt k hk
              have Wt : ∀ k, k < 24 → M24 (r + 6) k = ρ (258 + k) := fun k hk => by
                rw [hM24, zu_ne (by omega), hM23, va_up_self, show va_cpy (M21 (r2 + 6)) (M21 (r + 6)) (Int32.toNatClampNeg 0) (Int32.toNatClampNeg 0) (Int32.toNatClampNeg 24) k = M21 (r2 + 6) k from va_cpy0 hk, fM21 _ (by omega)]; exact hgq k hk
              have L0 : zLw (r + 16) 0 M24 ρ := by
                have q1 : zLw (r + 16) 0 M16 ρ := by
                  rw [hM16]
                  refine tc_lw ?_ hL0 rfl (fun k hk => ?_)
                  · rw [hM11, zu_ne (by omega), hM10, va_up_ne _ _ (by omega), hM9, zu_ne (by omega), hM8, zu_ne (by omega), hM5, zu_ne (by omega), hM4, va_up_ne _ _ (by omega), hM3, va_up_ne _ _ (by omega), hM2, zu_ne (by omega), hs1 _ (by omega)]; exact hu 0 (by decide)
                  · rw [fM11 _ (by omega)]; exact (hgl 0 (by decide)).2.2 k hk
                exact q1.cg (by rw [hM24, zu_ne (by omega), hM23, va_up_ne _ _ (by omega), hM21, tc_ne (by omega) (by omega)]) (by rw [hM24, zu_ne (by omega), hM23, va_up_ne _ _ (by omega), hM21, tc_ne (by omega) (by omega)]) (fun _ _ => rfl)
              have L1 : zLw (r + 19) 1 M24 ρ := by
                have q1 : zLw (r + 19) 1 M21 ρ := by
                  rw [hM21]
                  refine tc_lw ?_ hL1 rfl (fun k hk => ?_)
                  · rw [hM16, tc_ne (by omega) (by omega), hM11, zu_ne (by omega), hM10, va_up_ne _ _ (by omega), hM9, zu_ne (by omega), hM8, zu_ne (by omega), hM5, zu_ne (by omega), hM4, va_up_ne _ _ (by omega), hM3, va_up_ne _ _ (by omega), hM2, zu_ne (by omega), hs1 _ (by omega)]; exact hu 1 (by decide)
                  · rw [fM16 _ (by omega)]; exact (hgl 1 (by decide)).2.2 k hk
                exact q1.cg (by rw [hM24, zu_ne (by omega), hM23, va_up_ne _ _ (by omega)]) (by rw [hM24, zu_ne (by omega), hM23, va_up_ne _ _ (by omega)]) (fun _ _ => rfl)
              have hnf : zFrN r N N7 := fun j hj => by rw [hN7, zul_ne (by omega), hN6, zul_ne (by omega)]
              have HR : zRg r M24 N7 ρ := by
                refine ⟨⟨E1, E4, E7, E8, E10, E13⟩, fun i hi => (hb1 i hi).cg (G1 _ (by omega)) (G1 _ (by omega)) (fun _ _ => rfl), fun c hc => ⟨C0 c hc, C1 c hc⟩, ?_, ?_, Tp, Wt, fun u hu2 => ?_⟩
                · rw [hN7, zul_at, vl_ne (by decide), hN6, zul_at, vl_self]; exact hgs
                · rw [hN7, zul_at, vl_self, hN6, zul_ne (by omega)]; exact hgw
                · rcases (show u = 0 ∨ u = 1 by omega) with rfl | rfl
                  · exact L0
                  · exact L1
              exact kret _ _ _ dX3_takeAll_196 ⟨M24, N7, rfl, fM24, hnf, HR⟩
            · exact absurd c22 (by decide)
      · exact absurd c1 (nI_nlt (a := 4) (b := 4) (by omega) (by omega))
    | succ nq ih =>
      intro kq hkq M1 h1 hb1 hs1
      have hlt : kq < 4 := by omega
      refine z_iload_n (j := 0) o dX3_takeAll_2 rfl ?_
      refine z_iconst (v := 4) o dX3_takeAll_3 (by decide) ?_
      refine z_icmpge (tgt := 28) o dX3_takeAll_4 (by decide) (fun c25 => ?_) (fun c25 => ?_)
      · exact absurd (nI_lt (a := kq) (b := 4) (by omega) (by omega)) c25
      · refine z_aload_n (j := 1) o dX3_takeAll_7 rfl ?_
        refine zo_get (i := r) o hB dX3_takeAll_8 zf_X3_11 hR (by decide) (rfl) ?_
        refine z_iload_n (j := 0) o dX3_takeAll_11 rfl ?_
        refine zo_aldF (i := r + 1) (j := kq) o hB dX3_takeAll_12 (zh_R hR).1 (by rw [(zh_R hR).2.2.2.2.2.2.2.2.2.1]; omega) (by rw [(zh_R hR).2.2.2.2.2.2.2.2.2.1]; decide) ?_
        refine z_aload_n (j := 2) o dX3_takeAll_13 rfl ?_
        refine zo_get (i := r2) o hB dX3_takeAll_14 zf_X3_11 hR2 (by decide) (rfl) ?_
        refine z_iload_n (j := 0) o dX3_takeAll_17 rfl ?_
        refine zo_aldF (i := r2 + 1) (j := kq) o hB dX3_takeAll_18 (zh_R hR2).1 (by rw [(zh_R hR2).2.2.2.2.2.2.2.2.2.1]; omega) (by rw [(zh_R hR2).2.2.2.2.2.2.2.2.2.1]; decide) ?_
        refine z_callVv (As := [zref B (r2 + 8 + 2 * kq)]) (n := 1) (st := []) o dX3_takeAll_19 (c_X0_takeAll hB M1 N (r + 8 + 2 * kq) (r2 + 8 + 2 * kq) ((zh_R hR).2.2.2.2.2.2.2.1 kq (by omega)) ((zh_R hR2).2.2.2.2.2.2.2.1 kq (by omega)) (by omega) (by omega)) zc_X3_47 (by decide) (i := r + 8 + 2 * kq) (by rw [hB]; exact zsh_lt ((zh_R hR).2.2.2.2.2.2.2.1 kq (by omega)) (by decide)) (zg_o ((zh_R hR).2.2.2.2.2.2.2.1 kq (by omega)) (by decide)) rfl rfl rfl (Nat.le_of_ble_eq_true rfl) (fun g27 p28 => ?_)
        cases p28
        refine z_iinc (j := 0) (v := nI (kq + 1)) (lv2 := [(2, .int (nI (kq + 1))), (0, zref B r), (1, zref B r2)]) o dX3_takeAll_22 rfl (zn_ofInt _) (by decide) rfl ?_
        refine z_goto (tgt := 2) o dX3_takeAll_25 (by decide) ?_
        refine zo_lv [0, 1, 2] rfl ?_
        exact ih (kq + 1) (by omega) _ (fun j hj => by rw [tk_ne (by omega) (by omega)]; exact h1 j hj) (fun i hi => by
          by_cases q : i = kq
          · subst q; exact tk_fn ((hgf i hlt).cg (h1 _ (by omega)) (h1 _ (by omega)) (fun _ _ => rfl))
          · exact (hb1 i (by omega)).cg (tk_ne (by omega) (by omega)) (tk_ne (by omega) (by omega)) (fun _ _ => rfl)) (fun j hj => by rw [tk_ne (by omega) (by omega)]; exact hs1 j hj)
  refine zo_lv [0, 1, 2] rfl ?_
  exact LOOP 4 0 (by omega) M zFr.rf (fun i hi => absurd hi (by omega)) (fun _ _ => rfl)

