/-! the class: a Fence -/
set_option maxHeartbeats 4000000 in
set_option maxRecDepth 100000 in
theorem c_X0_standing {B : zB} (hB : znn B = 95) (M : zM) (N : zN) (f i : Nat) (ρ : Nat → Int32) (hf : zsh f = 0) (hi4 : i < 4) (hok : zOkR ρ) (hF : zFn f M ρ i) : zCl B (zg B M N) yX0_standing cX0_standing 4 (some .long) 1 [zref B f] (fun r g' => g' = zg B M N ∧ r = sp_pset ρ i) := by
  refine zCl_of (by decide +kernel) (Nat.le_of_ble_eq_true rfl) ?_
  intro X o kret
  show zW X B (zg B M N) 0 [(0, zref B f)] []
  obtain ⟨hnp, hnp8⟩ := ok_np2 hok hi4
  refine z_lconst (v := 0) o dX0_standing_0 (by decide) ?_
  refine z_lstore_n (i := 1) (lv2 := [(1, .long 0), (0, zref B f)]) o dX0_standing_1 rfl (by decide) rfl ?_
  refine z_iconst (v := 0) o dX0_standing_2 (by decide) ?_
  refine z_istore_n (i := 3) (lv2 := [(3, .int 0), (1, .long 0), (0, zref B f)]) o dX0_standing_3 rfl (by decide) rfl ?_
  have LOOP : ∀ nq kq : Nat, kq + nq = sp_np ρ i → zW X B (zg B M N) 4 [(3, .int (nI kq)), (1, .long (sp_posts ρ i kq)), (0, zref B f)] [] := by
    intro nq
    induction nq with
    | zero =>
      intro kq hkkq
      have hqkq : sp_np ρ i = kq := by omega
      subst hqkq
      refine z_iload_n (j := 0) o dX0_standing_4 rfl ?_
      refine z_aload_n (j := 2) o dX0_standing_5 rfl ?_
      refine zo_get (i := f) o hB dX0_standing_6 zf_X0_25 hf (by decide) (rfl) ?_
      refine zo_rw (y := nI (sp_np ρ i)) (hF.1.trans hnp) ?_
      refine z_icmpge (tgt := 30) o dX0_standing_9 (by decide) (fun c1 => ?_) (fun c1 => ?_)
      · refine z_lload_n (j := 1) o dX0_standing_30 rfl ?_
        exact kret _ _ _ _ dX0_standing_31 ⟨rfl, rfl⟩
      · exact absurd c1 (nI_nlt (a := sp_np ρ i) (b := sp_np ρ i) (by omega) (by omega))
    | succ nq ihkq =>
      intro kq hkkq
      have hlkq : kq < sp_np ρ i := by omega
      refine z_iload_n (j := 0) o dX0_standing_4 rfl ?_
      refine z_aload_n (j := 2) o dX0_standing_5 rfl ?_
      refine zo_get (i := f) o hB dX0_standing_6 zf_X0_25 hf (by decide) (rfl) ?_
      refine zo_rw (y := nI (sp_np ρ i)) (hF.1.trans hnp) ?_
      refine z_icmpge (tgt := 30) o dX0_standing_9 (by decide) (fun c2 => ?_) (fun c2 => ?_)
      · exact absurd (nI_lt (a := kq) (b := sp_np ρ i) (by omega) (by omega)) c2
      · refine z_lload_n (j := 1) o dX0_standing_12 rfl ?_
        refine z_aload_n (j := 2) o dX0_standing_13 rfl ?_
        refine zo_get (i := f) o hB dX0_standing_14 zf_X0_11 hf (by decide) (rfl) ?_
        refine z_iload_n (j := 0) o dX0_standing_17 rfl ?_
        refine zo_iald (i := f + 1) (j := kq) o hB dX0_standing_18 (zh_F hf) (by rw [(zh_Fn hf)]; omega) (by rw [(zh_Fn hf)]; decide) ?_
        refine zo_rw (y := ρ (6 + 13 * i + (5 + kq))) (hF.2.2.2.2.2 kq (by omega)) ?_
        refine z_callSl (As := [.int (ρ (6 + 13 * i + (5 + kq)))]) (n := 1) (st := [.long (sp_posts ρ i kq)]) o dX0_standing_19 (c_X1_bit hB M N (ρ (6 + 13 * i + (5 + kq)))) zc_X0_62 (by decide) rfl rfl (Nat.le_of_ble_eq_true rfl) (fun r3 g4 p5 => ?_)
        obtain ⟨rfl, rfl⟩ := p5
        refine z_lor o dX0_standing_22 ?_
        refine z_lstore_n (i := 1) (lv2 := [(1, .long ((sp_posts ρ i kq) ||| (zlshl 1 (ρ (6 + 13 * i + (5 + kq)))))), (3, .int (nI kq)), (0, zref B f)]) o dX0_standing_23 rfl (by decide) rfl ?_
        refine z_iinc (j := 1) (v := nI (kq + 1)) (lv2 := [(3, .int (nI (kq + 1))), (1, .long ((sp_posts ρ i kq) ||| (zlshl 1 (ρ (6 + 13 * i + (5 + kq)))))), (0, zref B f)]) o dX0_standing_24 rfl (zn_ofInt _) (by decide) rfl ?_
        refine z_goto (tgt := 4) o dX0_standing_27 (by decide) ?_
        refine zo_lv [0, 1, 2] rfl ?_
        exact ihkq (kq + 1) (by omega)
  exact LOOP (sp_np ρ i) 0 (by omega)

set_option maxHeartbeats 4000000 in
set_option maxRecDepth 100000 in
theorem c_X0_inside {B : zB} (hB : znn B = 95) (M : zM) (N : zN) (f i : Nat) (ρ : Nat → Int32) (hf : zsh f = 0) (hi4 : i < 4) (hok : zOkR ρ) (hF : zFn f M ρ i) : zCl B (zg B M N) yX0_inside cX0_inside 1 (some .long) 3 [zref B f] (fun r g' => g' = zg B M N ∧ r = sp_ins ρ i) := by
  refine zCl_of (by decide +kernel) (Nat.le_of_ble_eq_true rfl) ?_
  intro X o kret
  show zW X B (zg B M N) 0 [(0, zref B f)] []
  refine z_aload_n (j := 0) o dX0_inside_0 rfl ?_
  refine z_callVl (As := []) (n := 0) (st := []) o dX0_inside_1 (c_X0_standing hB M N f i ρ hf (by omega) hok hF) zc_X0_70 (by decide) (i := f) (by rw [hB]; exact zsh_lt hf (by decide)) (zg_o hf (by decide)) rfl rfl rfl (Nat.le_of_ble_eq_true rfl) (fun r1 g2 p3 => ?_)
  obtain ⟨rfl, rfl⟩ := p3
  refine z_callSl (As := [.long (sp_pset ρ i)]) (n := 1) (st := []) o dX0_inside_4 (c_X1_inside hB M N (sp_pset ρ i)) zc_X0_74 (by decide) rfl rfl (Nat.le_of_ble_eq_true rfl) (fun r4 g5 p6 => ?_)
  obtain ⟨rfl, rfl⟩ := p6
  exact kret _ _ _ _ dX0_inside_7 ⟨rfl, rfl⟩

set_option maxHeartbeats 4000000 in
set_option maxRecDepth 100000 in
theorem c_X0_turnsBy {B : zB} (hB : znn B = 95) (M : zM) (N : zN) (f i : Nat) (ρ : Nat → Int32) (x : Int32) (hf : zsh f = 0) (hi4 : i < 4) (hok : zOkR ρ) (hF : zFn f M ρ i) : zCi B (zg B M N) yX0_turnsBy cX0_turnsBy 3 (some .int) 0 [zref B f, .int x] (fun r g' => g' = zg B M N ∧ r = x / (ρ (6 + 13 * i + 1) + 1)) := by
  refine zCi_of (by decide +kernel) (Nat.le_of_ble_eq_true rfl) .int rfl (fun _ _ _ => rfl) ?_
  intro X o kret
  show zW X B (zg B M N) 0 [(0, zref B f), (1, .int x)] []
  obtain ⟨m9, hm9, em9⟩ := ok_f hok hi4 (j := 1) (by decide)
  have hm9b : m9 ≤ 9 := hm9
  refine z_aload_n (j := 0) o dX0_turnsBy_0 rfl ?_
  refine zo_get (i := f) o hB dX0_turnsBy_1 zf_X0_19 hf (by decide) (rfl) ?_
  refine zo_rw (y := nI m9) (hF.2.2.1.trans em9) ?_
  refine z_iconst (v := 1) o dX0_turnsBy_4 (by decide) ?_
  refine z_iadd o dX0_turnsBy_5 ?_
  refine zo_rw (y := nI (m9 + 1)) (zn_add (rfl) (rfl)) ?_
  refine z_istore_n (i := 2) (lv2 := [(2, .int (nI (m9 + 1))), (0, zref B f), (1, .int x)]) o dX0_turnsBy_6 rfl (by decide) rfl ?_
  refine z_iload_n (j := 0) o dX0_turnsBy_7 rfl ?_
  refine z_ifle (tgt := 17) o dX0_turnsBy_8 (by decide) (fun c1 => ?_) (fun c1 => ?_)
  · exact absurd (nI_lt (a := 0) (b := m9 + 1) (by omega) (by omega)) c1
  · refine z_iload_n (j := 2) o dX0_turnsBy_11 rfl ?_
    refine z_iload_n (j := 0) o dX0_turnsBy_12 rfl ?_
    refine z_idiv o dX0_turnsBy_13 (nI_ne0 (by omega) (by omega)) ?_
    refine z_goto (tgt := 18) o dX0_turnsBy_14 (by decide) ?_
    exact kret _ _ _ _ dX0_turnsBy_18 ⟨rfl, by rw [em9, nI_1]⟩

set_option maxHeartbeats 4000000 in
set_option maxRecDepth 100000 in
theorem c_X0_headsAt {B : zB} (hB : znn B = 95) (M : zM) (N : zN) (f i : Nat) (ρ : Nat → Int32) (p x : Int32) (hf : zsh f = 0) (hi4 : i < 4) (hok : zOkR ρ) (hF : zFn f M ρ i) : zCi B (zg B M N) yX0_headsAt cX0_headsAt 3 (some .int) 1 [zref B f, .int p, .int x] (fun r g' => g' = zg B M N ∧ r = cg_hd (ρ (6 + 13 * i + 0)) (ρ (6 + 13 * i + 1)) (ρ (6 + 13 * i + 2)) p x) := by
  refine zCi_of (by decide +kernel) (Nat.le_of_ble_eq_true rfl) .int rfl (fun _ _ _ => rfl) ?_
  intro X o kret
  show zW X B (zg B M N) 0 [(0, zref B f), (1, .int p), (2, .int x)] []
  refine z_aload_n (j := 0) o dX0_headsAt_0 rfl ?_
  refine zo_get (i := f) o hB dX0_headsAt_1 zf_X0_15 hf (by decide) (rfl) ?_
  refine zo_rw (y := ρ (6 + 13 * i + 0)) (hF.2.1) ?_
  refine z_tcase 2 (tgt := 40) o dX0_headsAt_4 (by decide) (by decide) rfl (by decide) (fun c1 => ?_) (fun c1 => ?_)
  · refine z_iload_n (j := 2) o dX0_headsAt_40 rfl ?_
    refine z_iconst (v := 2) o dX0_headsAt_41 (by decide) ?_
    refine z_irem o dX0_headsAt_42 (by decide) ?_
    refine z_iconst (v := 1) o dX0_headsAt_43 (by decide) ?_
    refine z_icmpne (tgt := 51) o dX0_headsAt_44 (by decide) (fun c2 => ?_) (fun c2 => ?_)
    · refine z_aload_n (j := 0) o dX0_headsAt_51 rfl ?_
      refine zo_get (i := f) o hB dX0_headsAt_52 zf_X0_22 hf (by decide) (rfl) ?_
      refine zo_rw (y := ρ (6 + 13 * i + 2)) (hF.2.2.2.1) ?_
      exact kret _ _ _ _ dX0_headsAt_55 ⟨rfl, by unfold cg_hd zirem; (repeat' split) <;> first | rfl | contradiction⟩
    · refine z_iconst (v := (-1)) o dX0_headsAt_47 (by decide) ?_
      refine z_goto (tgt := 55) o dX0_headsAt_48 (by decide) ?_
      exact kret _ _ _ _ dX0_headsAt_55 ⟨rfl, by unfold cg_hd zirem; (repeat' split) <;> first | rfl | contradiction⟩
  refine z_tcase 3 (tgt := 56) o dX0_headsAt_4 (by decide) (by decide) rfl (by decide) (fun c3 => ?_) (fun c3 => ?_)
  · refine z_aload_n (j := 0) o dX0_headsAt_56 rfl ?_
    refine zo_get (i := f) o hB dX0_headsAt_57 zf_X0_22 hf (by decide) (rfl) ?_
    refine zo_rw (y := ρ (6 + 13 * i + 2)) (hF.2.2.2.1) ?_
    refine z_aload_n (j := 0) o dX0_headsAt_60 rfl ?_
    refine z_iload_n (j := 2) o dX0_headsAt_61 rfl ?_
    refine z_callVi (As := [.int x]) (n := 1) (st := [.int (ρ (6 + 13 * i + 2))]) o dX0_headsAt_62 (c_X0_turnsBy hB M N f i ρ x hf (by omega) hok hF) zc_X0_43 (by decide) (i := f) (by rw [hB]; exact zsh_lt hf (by decide)) (zg_o hf (by decide)) rfl rfl rfl (Nat.le_of_ble_eq_true rfl) (fun r4 g5 p6 => ?_)
    obtain ⟨rfl, rfl⟩ := p6
    refine z_iadd o dX0_headsAt_65 ?_
    refine z_iconst (v := 4) o dX0_headsAt_66 (by decide) ?_
    refine z_irem o dX0_headsAt_67 (by decide) ?_
    exact kret _ _ _ _ dX0_headsAt_68 ⟨rfl, by unfold cg_hd zirem; (repeat' split) <;> first | rfl | contradiction⟩
  refine z_tcase 4 (tgt := 69) o dX0_headsAt_4 (by decide) (by decide) rfl (by decide) (fun c7 => ?_) (fun c7 => ?_)
  · refine z_iload_n (j := 2) o dX0_headsAt_69 rfl ?_
    refine z_iconst (v := 4) o dX0_headsAt_70 (by decide) ?_
    refine z_irem o dX0_headsAt_71 (by decide) ?_
    refine z_iconst (v := 2) o dX0_headsAt_72 (by decide) ?_
    refine z_icmplt (tgt := 87) o dX0_headsAt_73 (by decide) (fun c8 => ?_) (fun c8 => ?_)
    · refine z_aload_n (j := 0) o dX0_headsAt_87 rfl ?_
      refine zo_get (i := f) o hB dX0_headsAt_88 zf_X0_22 hf (by decide) (rfl) ?_
      refine zo_rw (y := ρ (6 + 13 * i + 2)) (hF.2.2.2.1) ?_
      exact kret _ _ _ _ dX0_headsAt_91 ⟨rfl, by unfold cg_hd zirem; (repeat' split) <;> first | rfl | contradiction⟩
    · refine z_aload_n (j := 0) o dX0_headsAt_76 rfl ?_
      refine zo_get (i := f) o hB dX0_headsAt_77 zf_X0_22 hf (by decide) (rfl) ?_
      refine zo_rw (y := ρ (6 + 13 * i + 2)) (hF.2.2.2.1) ?_
      refine z_iconst (v := 2) o dX0_headsAt_80 (by decide) ?_
      refine z_iadd o dX0_headsAt_81 ?_
      refine z_iconst (v := 4) o dX0_headsAt_82 (by decide) ?_
      refine z_irem o dX0_headsAt_83 (by decide) ?_
      refine z_goto (tgt := 91) o dX0_headsAt_84 (by decide) ?_
      exact kret _ _ _ _ dX0_headsAt_91 ⟨rfl, by unfold cg_hd zirem; (repeat' split) <;> first | rfl | contradiction⟩
  refine z_tcase 5 (tgt := 92) o dX0_headsAt_4 (by decide) (by decide) rfl (by decide) (fun c9 => ?_) (fun c9 => ?_)
  · refine z_iload_n (j := 1) o dX0_headsAt_92 rfl ?_
    refine z_ifeq (tgt := 103) o dX0_headsAt_93 (by decide) (fun c10 => ?_) (fun c10 => ?_)
    · refine z_iconst (v := (-1)) o dX0_headsAt_103 (by decide) ?_
      refine z_goto (tgt := 111) o dX0_headsAt_104 (by decide) ?_
      exact kret _ _ _ _ dX0_headsAt_111 ⟨rfl, by unfold cg_hd zirem; (repeat' split) <;> first | rfl | contradiction⟩
    · refine z_iload_n (j := 2) o dX0_headsAt_96 rfl ?_
      refine z_iconst (v := 2) o dX0_headsAt_97 (by decide) ?_
      refine z_irem o dX0_headsAt_98 (by decide) ?_
      refine z_iconst (v := 1) o dX0_headsAt_99 (by decide) ?_
      refine z_icmpne (tgt := 107) o dX0_headsAt_100 (by decide) (fun c11 => ?_) (fun c11 => ?_)
      · refine z_aload_n (j := 0) o dX0_headsAt_107 rfl ?_
        refine zo_get (i := f) o hB dX0_headsAt_108 zf_X0_22 hf (by decide) (rfl) ?_
        refine zo_rw (y := ρ (6 + 13 * i + 2)) (hF.2.2.2.1) ?_
        exact kret _ _ _ _ dX0_headsAt_111 ⟨rfl, by unfold cg_hd zirem; (repeat' split) <;> first | rfl | contradiction⟩
      · refine z_iconst (v := (-1)) o dX0_headsAt_103 (by decide) ?_
        refine z_goto (tgt := 111) o dX0_headsAt_104 (by decide) ?_
        exact kret _ _ _ _ dX0_headsAt_111 ⟨rfl, by unfold cg_hd zirem; (repeat' split) <;> first | rfl | contradiction⟩
  refine z_tcase 6 (tgt := 112) o dX0_headsAt_4 (by decide) (by decide) rfl (by decide) (fun c12 => ?_) (fun c12 => ?_)
  · refine z_aload_n (j := 0) o dX0_headsAt_112 rfl ?_
    refine zo_get (i := f) o hB dX0_headsAt_113 zf_X0_19 hf (by decide) (rfl) ?_
    refine zo_rw (y := ρ (6 + 13 * i + 1)) (hF.2.2.1) ?_
    refine z_bipush (v := 9) o dX0_headsAt_116 (by decide) ?_
    refine z_icmpne (tgt := 128) o dX0_headsAt_118 (by decide) (fun c13 => ?_) (fun c13 => ?_)
    · refine z_iconst (v := (-1)) o dX0_headsAt_128 (by decide) ?_
      exact kret _ _ _ _ dX0_headsAt_129 ⟨rfl, by unfold cg_hd zirem; (repeat' split) <;> first | rfl | contradiction⟩
    · refine z_aload_n (j := 0) o dX0_headsAt_121 rfl ?_
      refine zo_get (i := f) o hB dX0_headsAt_122 zf_X0_22 hf (by decide) (rfl) ?_
      refine zo_rw (y := ρ (6 + 13 * i + 2)) (hF.2.2.2.1) ?_
      refine z_goto (tgt := 129) o dX0_headsAt_125 (by decide) ?_
      exact kret _ _ _ _ dX0_headsAt_129 ⟨rfl, by unfold cg_hd zirem; (repeat' split) <;> first | rfl | contradiction⟩
  refine z_tdef (tgt := 130) o dX0_headsAt_4 (by have := lv_neT (a := 2) c1 rfl; have := lv_neT (a := 3) c3 rfl; have := lv_neT (a := 4) c7 rfl; have := lv_neT (a := 5) c9 rfl; have := lv_neT (a := 6) c12 rfl; omega) (by decide) ?_
  refine z_aload_n (j := 0) o dX0_headsAt_130 rfl ?_
  refine zo_get (i := f) o hB dX0_headsAt_131 zf_X0_22 hf (by decide) (rfl) ?_
  refine zo_rw (y := ρ (6 + 13 * i + 2)) (hF.2.2.2.1) ?_
  exact kret _ _ _ _ dX0_headsAt_134 ⟨rfl, by unfold cg_hd zirem; (repeat' split) <;> first | rfl | contradiction⟩

set_option maxHeartbeats 4000000 in
set_option maxRecDepth 100000 in
theorem c_X7_isOfKind {B : zB} (hB : znn B = 95) (M : zM) (N : zN) (k : Nat) (a : Int32) (hk : k ≤ 6) : zCi B (zg B M N) yX7_isOfKind cX7_isOfKind 4 (some .boolean) 0 [.int (nI k), .int a] (fun r g' => g' = zg B M N ∧ r = cg_kind (nI k) a) := by
  refine zCi_of (by decide +kernel) (Nat.le_of_ble_eq_true rfl) .boolean rfl (fun r _ h => zin_z r (by rw [h.2]; unfold cg_kind; (repeat' split) <;> simp)) ?_
  intro X o kret
  show zW X B (zg B M N) 0 [(0, .int (nI k)), (1, .int a)] []
  rcases (show k = 0 ∨ k = 1 ∨ k = 2 ∨ k = 3 ∨ k = 4 ∨ k = 5 ∨ k = 6 by omega) with rfl | rfl | rfl | rfl | rfl | rfl | rfl
  · refine zo_lv [0, 1] rfl ?_
    show zW X B (zg B M N) 0 [(0, .int (0)), (1, .int a)] []
    refine z_iload_n (j := 0) o dX7_isOfKind_0 rfl ?_
    refine z_istore_n (i := 2) (lv2 := [(2, .int 0), (0, .int 0), (1, .int a)]) o dX7_isOfKind_1 rfl (by decide) rfl ?_
    refine z_iconst (v := 0) o dX7_isOfKind_2 (by decide) ?_
    refine z_istore_n (i := 3) (lv2 := [(3, .int 0), (2, .int 0), (0, .int 0), (1, .int a)]) o dX7_isOfKind_3 rfl (by decide) rfl ?_
    refine z_iload_n (j := 0) o dX7_isOfKind_4 rfl ?_
    refine z_aboveLen o dX7_isOfKind_5 zf_X7_294 dX7_isOfKind_8 ?_
    refine z_icmpge (tgt := 43) o dX7_isOfKind_9 (by decide) (fun c1 => ?_) (fun c1 => ?_)
    · exact absurd c1 (by decide)
    · refine z_iload_n (j := 1) o dX7_isOfKind_12 rfl ?_
      refine z_iflt (tgt := 43) o dX7_isOfKind_13 (by decide) (fun c2 => ?_) (fun c2 => ?_)
      · exact absurd c2 (by decide)
      · refine z_iload_n (j := 1) o dX7_isOfKind_16 rfl ?_
        refine z_aboveLen o dX7_isOfKind_17 zf_X7_294 dX7_isOfKind_20 ?_
        refine z_icmpge (tgt := 43) o dX7_isOfKind_21 (by decide) (fun c3 => ?_) (fun c3 => ?_)
        · exact absurd c3 (by decide)
        · refine z_iload_n (j := 1) o dX7_isOfKind_24 rfl ?_
          refine z_iload_n (j := 3) o dX7_isOfKind_25 rfl ?_
          refine z_icmpne (tgt := 31) o dX7_isOfKind_26 (by decide) (fun c4 => ?_) (fun c4 => ?_)
          · refine z_aboveAt (k := 0) (j1 := 1) o dX7_isOfKind_31 zf_X7_294 dX7_isOfKind_34 rfl dX7_isOfKind_35 (by unfold vp_in; decide) ?_
            refine zo_rw (y := (-1)) (by decide) ?_
            refine z_istore_n (i := 2) (lv2 := [(2, .int (-1)), (3, .int 0), (0, .int 0), (1, .int a)]) o dX7_isOfKind_36 rfl (by decide) rfl ?_
            refine z_iinc (j := 1) (v := 1) (lv2 := [(3, .int 1), (2, .int (-1)), (0, .int 0), (1, .int a)]) o dX7_isOfKind_37 rfl (by decide) (by decide) rfl ?_
            refine z_goto (tgt := 4) o dX7_isOfKind_40 (by decide) ?_
            refine z_iload_n (j := 0) o dX7_isOfKind_4 rfl ?_
            refine z_aboveLen o dX7_isOfKind_5 zf_X7_294 dX7_isOfKind_8 ?_
            refine z_icmpge (tgt := 43) o dX7_isOfKind_9 (by decide) (fun c5 => ?_) (fun c5 => ?_)
            · exact absurd c5 (by decide)
            · refine z_iload_n (j := 1) o dX7_isOfKind_12 rfl ?_
              refine z_iflt (tgt := 43) o dX7_isOfKind_13 (by decide) (fun c6 => ?_) (fun c6 => ?_)
              · refine z_iconst (v := 0) o dX7_isOfKind_43 (by decide) ?_
                exact kret _ _ _ _ dX7_isOfKind_44 ⟨rfl, by show _ = cg_kind 0 a; first | (unfold cg_kind; simp [*]; done) | (subst_vars; decide)⟩
              · exact absurd c6 (by decide)
          · refine z_iconst (v := 1) o dX7_isOfKind_29 (by decide) ?_
            exact kret _ _ _ _ dX7_isOfKind_30 ⟨rfl, by show _ = cg_kind 0 a; first | (unfold cg_kind; simp [*]; done) | (subst_vars; decide)⟩
  · refine zo_lv [0, 1] rfl ?_
    show zW X B (zg B M N) 0 [(0, .int (1)), (1, .int a)] []
    refine z_iload_n (j := 0) o dX7_isOfKind_0 rfl ?_
    refine z_istore_n (i := 2) (lv2 := [(2, .int 1), (0, .int 1), (1, .int a)]) o dX7_isOfKind_1 rfl (by decide) rfl ?_
    refine z_iconst (v := 0) o dX7_isOfKind_2 (by decide) ?_
    refine z_istore_n (i := 3) (lv2 := [(3, .int 0), (2, .int 1), (0, .int 1), (1, .int a)]) o dX7_isOfKind_3 rfl (by decide) rfl ?_
    refine z_iload_n (j := 0) o dX7_isOfKind_4 rfl ?_
    refine z_aboveLen o dX7_isOfKind_5 zf_X7_294 dX7_isOfKind_8 ?_
    refine z_icmpge (tgt := 43) o dX7_isOfKind_9 (by decide) (fun c7 => ?_) (fun c7 => ?_)
    · exact absurd c7 (by decide)
    · refine z_iload_n (j := 1) o dX7_isOfKind_12 rfl ?_
      refine z_iflt (tgt := 43) o dX7_isOfKind_13 (by decide) (fun c8 => ?_) (fun c8 => ?_)
      · exact absurd c8 (by decide)
      · refine z_iload_n (j := 1) o dX7_isOfKind_16 rfl ?_
        refine z_aboveLen o dX7_isOfKind_17 zf_X7_294 dX7_isOfKind_20 ?_
        refine z_icmpge (tgt := 43) o dX7_isOfKind_21 (by decide) (fun c9 => ?_) (fun c9 => ?_)
        · exact absurd c9 (by decide)
        · refine z_iload_n (j := 1) o dX7_isOfKind_24 rfl ?_
          refine z_iload_n (j := 3) o dX7_isOfKind_25 rfl ?_
          refine z_icmpne (tgt := 31) o dX7_isOfKind_26 (by decide) (fun c10 => ?_) (fun c10 => ?_)
          · refine z_aboveAt (k := 0) (j1 := 1) o dX7_isOfKind_31 zf_X7_294 dX7_isOfKind_34 rfl dX7_isOfKind_35 (by unfold vp_in; decide) ?_
            refine zo_rw (y := 0) (by decide) ?_
            refine z_istore_n (i := 2) (lv2 := [(2, .int 0), (3, .int 0), (0, .int 1), (1, .int a)]) o dX7_isOfKind_36 rfl (by decide) rfl ?_
            refine z_iinc (j := 1) (v := 1) (lv2 := [(3, .int 1), (2, .int 0), (0, .int 1), (1, .int a)]) o dX7_isOfKind_37 rfl (by decide) (by decide) rfl ?_
            refine z_goto (tgt := 4) o dX7_isOfKind_40 (by decide) ?_
            refine z_iload_n (j := 0) o dX7_isOfKind_4 rfl ?_
            refine z_aboveLen o dX7_isOfKind_5 zf_X7_294 dX7_isOfKind_8 ?_
            refine z_icmpge (tgt := 43) o dX7_isOfKind_9 (by decide) (fun c11 => ?_) (fun c11 => ?_)
            · exact absurd c11 (by decide)
            · refine z_iload_n (j := 1) o dX7_isOfKind_12 rfl ?_
              refine z_iflt (tgt := 43) o dX7_isOfKind_13 (by decide) (fun c12 => ?_) (fun c12 => ?_)
              · exact absurd c12 (by decide)
              · refine z_iload_n (j := 1) o dX7_isOfKind_16 rfl ?_
                refine z_aboveLen o dX7_isOfKind_17 zf_X7_294 dX7_isOfKind_20 ?_
                refine z_icmpge (tgt := 43) o dX7_isOfKind_21 (by decide) (fun c13 => ?_) (fun c13 => ?_)
                · exact absurd c13 (by decide)
                · refine z_iload_n (j := 1) o dX7_isOfKind_24 rfl ?_
                  refine z_iload_n (j := 3) o dX7_isOfKind_25 rfl ?_
                  refine z_icmpne (tgt := 31) o dX7_isOfKind_26 (by decide) (fun c14 => ?_) (fun c14 => ?_)
                  · refine z_aboveAt (k := 0) (j1 := 1) o dX7_isOfKind_31 zf_X7_294 dX7_isOfKind_34 rfl dX7_isOfKind_35 (by unfold vp_in; decide) ?_
                    refine zo_rw (y := (-1)) (by decide) ?_
                    refine z_istore_n (i := 2) (lv2 := [(2, .int (-1)), (3, .int 1), (0, .int 1), (1, .int a)]) o dX7_isOfKind_36 rfl (by decide) rfl ?_
                    refine z_iinc (j := 1) (v := 2) (lv2 := [(3, .int 2), (2, .int (-1)), (0, .int 1), (1, .int a)]) o dX7_isOfKind_37 rfl (by decide) (by decide) rfl ?_
                    refine z_goto (tgt := 4) o dX7_isOfKind_40 (by decide) ?_
                    refine z_iload_n (j := 0) o dX7_isOfKind_4 rfl ?_
                    refine z_aboveLen o dX7_isOfKind_5 zf_X7_294 dX7_isOfKind_8 ?_
                    refine z_icmpge (tgt := 43) o dX7_isOfKind_9 (by decide) (fun c15 => ?_) (fun c15 => ?_)
                    · exact absurd c15 (by decide)
                    · refine z_iload_n (j := 1) o dX7_isOfKind_12 rfl ?_
                      refine z_iflt (tgt := 43) o dX7_isOfKind_13 (by decide) (fun c16 => ?_) (fun c16 => ?_)
                      · refine z_iconst (v := 0) o dX7_isOfKind_43 (by decide) ?_
                        exact kret _ _ _ _ dX7_isOfKind_44 ⟨rfl, by show _ = cg_kind 1 a; first | (unfold cg_kind; simp [*]; done) | (subst_vars; decide)⟩
                      · exact absurd c16 (by decide)
                  · refine z_iconst (v := 1) o dX7_isOfKind_29 (by decide) ?_
                    exact kret _ _ _ _ dX7_isOfKind_30 ⟨rfl, by show _ = cg_kind 1 a; first | (unfold cg_kind; simp [*]; done) | (subst_vars; decide)⟩
          · refine z_iconst (v := 1) o dX7_isOfKind_29 (by decide) ?_
            exact kret _ _ _ _ dX7_isOfKind_30 ⟨rfl, by show _ = cg_kind 1 a; first | (unfold cg_kind; simp [*]; done) | (subst_vars; decide)⟩
  · refine zo_lv [0, 1] rfl ?_
    show zW X B (zg B M N) 0 [(0, .int (2)), (1, .int a)] []
    refine z_iload_n (j := 0) o dX7_isOfKind_0 rfl ?_
    refine z_istore_n (i := 2) (lv2 := [(2, .int 2), (0, .int 2), (1, .int a)]) o dX7_isOfKind_1 rfl (by decide) rfl ?_
    refine z_iconst (v := 0) o dX7_isOfKind_2 (by decide) ?_
    refine z_istore_n (i := 3) (lv2 := [(3, .int 0), (2, .int 2), (0, .int 2), (1, .int a)]) o dX7_isOfKind_3 rfl (by decide) rfl ?_
    refine z_iload_n (j := 0) o dX7_isOfKind_4 rfl ?_
    refine z_aboveLen o dX7_isOfKind_5 zf_X7_294 dX7_isOfKind_8 ?_
    refine z_icmpge (tgt := 43) o dX7_isOfKind_9 (by decide) (fun c17 => ?_) (fun c17 => ?_)
    · exact absurd c17 (by decide)
    · refine z_iload_n (j := 1) o dX7_isOfKind_12 rfl ?_
      refine z_iflt (tgt := 43) o dX7_isOfKind_13 (by decide) (fun c18 => ?_) (fun c18 => ?_)
      · exact absurd c18 (by decide)
      · refine z_iload_n (j := 1) o dX7_isOfKind_16 rfl ?_
        refine z_aboveLen o dX7_isOfKind_17 zf_X7_294 dX7_isOfKind_20 ?_
        refine z_icmpge (tgt := 43) o dX7_isOfKind_21 (by decide) (fun c19 => ?_) (fun c19 => ?_)
        · exact absurd c19 (by decide)
        · refine z_iload_n (j := 1) o dX7_isOfKind_24 rfl ?_
          refine z_iload_n (j := 3) o dX7_isOfKind_25 rfl ?_
          refine z_icmpne (tgt := 31) o dX7_isOfKind_26 (by decide) (fun c20 => ?_) (fun c20 => ?_)
          · refine z_aboveAt (k := 0) (j1 := 1) o dX7_isOfKind_31 zf_X7_294 dX7_isOfKind_34 rfl dX7_isOfKind_35 (by unfold vp_in; decide) ?_
            refine zo_rw (y := 0) (by decide) ?_
            refine z_istore_n (i := 2) (lv2 := [(2, .int 0), (3, .int 0), (0, .int 2), (1, .int a)]) o dX7_isOfKind_36 rfl (by decide) rfl ?_
            refine z_iinc (j := 1) (v := 1) (lv2 := [(3, .int 1), (2, .int 0), (0, .int 2), (1, .int a)]) o dX7_isOfKind_37 rfl (by decide) (by decide) rfl ?_
            refine z_goto (tgt := 4) o dX7_isOfKind_40 (by decide) ?_
            refine z_iload_n (j := 0) o dX7_isOfKind_4 rfl ?_
            refine z_aboveLen o dX7_isOfKind_5 zf_X7_294 dX7_isOfKind_8 ?_
            refine z_icmpge (tgt := 43) o dX7_isOfKind_9 (by decide) (fun c21 => ?_) (fun c21 => ?_)
            · exact absurd c21 (by decide)
            · refine z_iload_n (j := 1) o dX7_isOfKind_12 rfl ?_
              refine z_iflt (tgt := 43) o dX7_isOfKind_13 (by decide) (fun c22 => ?_) (fun c22 => ?_)
              · exact absurd c22 (by decide)
              · refine z_iload_n (j := 1) o dX7_isOfKind_16 rfl ?_
                refine z_aboveLen o dX7_isOfKind_17 zf_X7_294 dX7_isOfKind_20 ?_
                refine z_icmpge (tgt := 43) o dX7_isOfKind_21 (by decide) (fun c23 => ?_) (fun c23 => ?_)
                · exact absurd c23 (by decide)
                · refine z_iload_n (j := 1) o dX7_isOfKind_24 rfl ?_
                  refine z_iload_n (j := 3) o dX7_isOfKind_25 rfl ?_
                  refine z_icmpne (tgt := 31) o dX7_isOfKind_26 (by decide) (fun c24 => ?_) (fun c24 => ?_)
                  · refine z_aboveAt (k := 0) (j1 := 1) o dX7_isOfKind_31 zf_X7_294 dX7_isOfKind_34 rfl dX7_isOfKind_35 (by unfold vp_in; decide) ?_
                    refine zo_rw (y := (-1)) (by decide) ?_
                    refine z_istore_n (i := 2) (lv2 := [(2, .int (-1)), (3, .int 1), (0, .int 2), (1, .int a)]) o dX7_isOfKind_36 rfl (by decide) rfl ?_
                    refine z_iinc (j := 1) (v := 2) (lv2 := [(3, .int 2), (2, .int (-1)), (0, .int 2), (1, .int a)]) o dX7_isOfKind_37 rfl (by decide) (by decide) rfl ?_
                    refine z_goto (tgt := 4) o dX7_isOfKind_40 (by decide) ?_
                    refine z_iload_n (j := 0) o dX7_isOfKind_4 rfl ?_
                    refine z_aboveLen o dX7_isOfKind_5 zf_X7_294 dX7_isOfKind_8 ?_
                    refine z_icmpge (tgt := 43) o dX7_isOfKind_9 (by decide) (fun c25 => ?_) (fun c25 => ?_)
                    · exact absurd c25 (by decide)
                    · refine z_iload_n (j := 1) o dX7_isOfKind_12 rfl ?_
                      refine z_iflt (tgt := 43) o dX7_isOfKind_13 (by decide) (fun c26 => ?_) (fun c26 => ?_)
                      · refine z_iconst (v := 0) o dX7_isOfKind_43 (by decide) ?_
                        exact kret _ _ _ _ dX7_isOfKind_44 ⟨rfl, by show _ = cg_kind 2 a; first | (unfold cg_kind; simp [*]; done) | (subst_vars; decide)⟩
                      · exact absurd c26 (by decide)
                  · refine z_iconst (v := 1) o dX7_isOfKind_29 (by decide) ?_
                    exact kret _ _ _ _ dX7_isOfKind_30 ⟨rfl, by show _ = cg_kind 2 a; first | (unfold cg_kind; simp [*]; done) | (subst_vars; decide)⟩
          · refine z_iconst (v := 1) o dX7_isOfKind_29 (by decide) ?_
            exact kret _ _ _ _ dX7_isOfKind_30 ⟨rfl, by show _ = cg_kind 2 a; first | (unfold cg_kind; simp [*]; done) | (subst_vars; decide)⟩
  · refine zo_lv [0, 1] rfl ?_
    show zW X B (zg B M N) 0 [(0, .int (3)), (1, .int a)] []
    refine z_iload_n (j := 0) o dX7_isOfKind_0 rfl ?_
    refine z_istore_n (i := 2) (lv2 := [(2, .int 3), (0, .int 3), (1, .int a)]) o dX7_isOfKind_1 rfl (by decide) rfl ?_
    refine z_iconst (v := 0) o dX7_isOfKind_2 (by decide) ?_
    refine z_istore_n (i := 3) (lv2 := [(3, .int 0), (2, .int 3), (0, .int 3), (1, .int a)]) o dX7_isOfKind_3 rfl (by decide) rfl ?_
    refine z_iload_n (j := 0) o dX7_isOfKind_4 rfl ?_
    refine z_aboveLen o dX7_isOfKind_5 zf_X7_294 dX7_isOfKind_8 ?_
    refine z_icmpge (tgt := 43) o dX7_isOfKind_9 (by decide) (fun c27 => ?_) (fun c27 => ?_)
    · exact absurd c27 (by decide)
    · refine z_iload_n (j := 1) o dX7_isOfKind_12 rfl ?_
      refine z_iflt (tgt := 43) o dX7_isOfKind_13 (by decide) (fun c28 => ?_) (fun c28 => ?_)
      · exact absurd c28 (by decide)
      · refine z_iload_n (j := 1) o dX7_isOfKind_16 rfl ?_
        refine z_aboveLen o dX7_isOfKind_17 zf_X7_294 dX7_isOfKind_20 ?_
        refine z_icmpge (tgt := 43) o dX7_isOfKind_21 (by decide) (fun c29 => ?_) (fun c29 => ?_)
        · exact absurd c29 (by decide)
        · refine z_iload_n (j := 1) o dX7_isOfKind_24 rfl ?_
          refine z_iload_n (j := 3) o dX7_isOfKind_25 rfl ?_
          refine z_icmpne (tgt := 31) o dX7_isOfKind_26 (by decide) (fun c30 => ?_) (fun c30 => ?_)
          · refine z_aboveAt (k := 0) (j1 := 1) o dX7_isOfKind_31 zf_X7_294 dX7_isOfKind_34 rfl dX7_isOfKind_35 (by unfold vp_in; decide) ?_
            refine zo_rw (y := 0) (by decide) ?_
            refine z_istore_n (i := 2) (lv2 := [(2, .int 0), (3, .int 0), (0, .int 3), (1, .int a)]) o dX7_isOfKind_36 rfl (by decide) rfl ?_
            refine z_iinc (j := 1) (v := 1) (lv2 := [(3, .int 1), (2, .int 0), (0, .int 3), (1, .int a)]) o dX7_isOfKind_37 rfl (by decide) (by decide) rfl ?_
            refine z_goto (tgt := 4) o dX7_isOfKind_40 (by decide) ?_
            refine z_iload_n (j := 0) o dX7_isOfKind_4 rfl ?_
            refine z_aboveLen o dX7_isOfKind_5 zf_X7_294 dX7_isOfKind_8 ?_
            refine z_icmpge (tgt := 43) o dX7_isOfKind_9 (by decide) (fun c31 => ?_) (fun c31 => ?_)
            · exact absurd c31 (by decide)
            · refine z_iload_n (j := 1) o dX7_isOfKind_12 rfl ?_
              refine z_iflt (tgt := 43) o dX7_isOfKind_13 (by decide) (fun c32 => ?_) (fun c32 => ?_)
              · exact absurd c32 (by decide)
              · refine z_iload_n (j := 1) o dX7_isOfKind_16 rfl ?_
                refine z_aboveLen o dX7_isOfKind_17 zf_X7_294 dX7_isOfKind_20 ?_
                refine z_icmpge (tgt := 43) o dX7_isOfKind_21 (by decide) (fun c33 => ?_) (fun c33 => ?_)
                · exact absurd c33 (by decide)
                · refine z_iload_n (j := 1) o dX7_isOfKind_24 rfl ?_
                  refine z_iload_n (j := 3) o dX7_isOfKind_25 rfl ?_
                  refine z_icmpne (tgt := 31) o dX7_isOfKind_26 (by decide) (fun c34 => ?_) (fun c34 => ?_)
                  · refine z_aboveAt (k := 0) (j1 := 1) o dX7_isOfKind_31 zf_X7_294 dX7_isOfKind_34 rfl dX7_isOfKind_35 (by unfold vp_in; decide) ?_
                    refine zo_rw (y := (-1)) (by decide) ?_
                    refine z_istore_n (i := 2) (lv2 := [(2, .int (-1)), (3, .int 1), (0, .int 3), (1, .int a)]) o dX7_isOfKind_36 rfl (by decide) rfl ?_
                    refine z_iinc (j := 1) (v := 2) (lv2 := [(3, .int 2), (2, .int (-1)), (0, .int 3), (1, .int a)]) o dX7_isOfKind_37 rfl (by decide) (by decide) rfl ?_
                    refine z_goto (tgt := 4) o dX7_isOfKind_40 (by decide) ?_
                    refine z_iload_n (j := 0) o dX7_isOfKind_4 rfl ?_
                    refine z_aboveLen o dX7_isOfKind_5 zf_X7_294 dX7_isOfKind_8 ?_
                    refine z_icmpge (tgt := 43) o dX7_isOfKind_9 (by decide) (fun c35 => ?_) (fun c35 => ?_)
                    · exact absurd c35 (by decide)
                    · refine z_iload_n (j := 1) o dX7_isOfKind_12 rfl ?_
                      refine z_iflt (tgt := 43) o dX7_isOfKind_13 (by decide) (fun c36 => ?_) (fun c36 => ?_)
                      · refine z_iconst (v := 0) o dX7_isOfKind_43 (by decide) ?_
                        exact kret _ _ _ _ dX7_isOfKind_44 ⟨rfl, by show _ = cg_kind 3 a; first | (unfold cg_kind; simp [*]; done) | (subst_vars; decide)⟩
                      · exact absurd c36 (by decide)
                  · refine z_iconst (v := 1) o dX7_isOfKind_29 (by decide) ?_
                    exact kret _ _ _ _ dX7_isOfKind_30 ⟨rfl, by show _ = cg_kind 3 a; first | (unfold cg_kind; simp [*]; done) | (subst_vars; decide)⟩
          · refine z_iconst (v := 1) o dX7_isOfKind_29 (by decide) ?_
            exact kret _ _ _ _ dX7_isOfKind_30 ⟨rfl, by show _ = cg_kind 3 a; first | (unfold cg_kind; simp [*]; done) | (subst_vars; decide)⟩
  · refine zo_lv [0, 1] rfl ?_
    show zW X B (zg B M N) 0 [(0, .int (4)), (1, .int a)] []
    refine z_iload_n (j := 0) o dX7_isOfKind_0 rfl ?_
    refine z_istore_n (i := 2) (lv2 := [(2, .int 4), (0, .int 4), (1, .int a)]) o dX7_isOfKind_1 rfl (by decide) rfl ?_
    refine z_iconst (v := 0) o dX7_isOfKind_2 (by decide) ?_
    refine z_istore_n (i := 3) (lv2 := [(3, .int 0), (2, .int 4), (0, .int 4), (1, .int a)]) o dX7_isOfKind_3 rfl (by decide) rfl ?_
    refine z_iload_n (j := 0) o dX7_isOfKind_4 rfl ?_
    refine z_aboveLen o dX7_isOfKind_5 zf_X7_294 dX7_isOfKind_8 ?_
    refine z_icmpge (tgt := 43) o dX7_isOfKind_9 (by decide) (fun c37 => ?_) (fun c37 => ?_)
    · exact absurd c37 (by decide)
    · refine z_iload_n (j := 1) o dX7_isOfKind_12 rfl ?_
      refine z_iflt (tgt := 43) o dX7_isOfKind_13 (by decide) (fun c38 => ?_) (fun c38 => ?_)
      · exact absurd c38 (by decide)
      · refine z_iload_n (j := 1) o dX7_isOfKind_16 rfl ?_
        refine z_aboveLen o dX7_isOfKind_17 zf_X7_294 dX7_isOfKind_20 ?_
        refine z_icmpge (tgt := 43) o dX7_isOfKind_21 (by decide) (fun c39 => ?_) (fun c39 => ?_)
        · exact absurd c39 (by decide)
        · refine z_iload_n (j := 1) o dX7_isOfKind_24 rfl ?_
          refine z_iload_n (j := 3) o dX7_isOfKind_25 rfl ?_
          refine z_icmpne (tgt := 31) o dX7_isOfKind_26 (by decide) (fun c40 => ?_) (fun c40 => ?_)
          · refine z_aboveAt (k := 0) (j1 := 1) o dX7_isOfKind_31 zf_X7_294 dX7_isOfKind_34 rfl dX7_isOfKind_35 (by unfold vp_in; decide) ?_
            refine zo_rw (y := 1) (by decide) ?_
            refine z_istore_n (i := 2) (lv2 := [(2, .int 1), (3, .int 0), (0, .int 4), (1, .int a)]) o dX7_isOfKind_36 rfl (by decide) rfl ?_
            refine z_iinc (j := 1) (v := 1) (lv2 := [(3, .int 1), (2, .int 1), (0, .int 4), (1, .int a)]) o dX7_isOfKind_37 rfl (by decide) (by decide) rfl ?_
            refine z_goto (tgt := 4) o dX7_isOfKind_40 (by decide) ?_
            refine z_iload_n (j := 0) o dX7_isOfKind_4 rfl ?_
            refine z_aboveLen o dX7_isOfKind_5 zf_X7_294 dX7_isOfKind_8 ?_
            refine z_icmpge (tgt := 43) o dX7_isOfKind_9 (by decide) (fun c41 => ?_) (fun c41 => ?_)
            · exact absurd c41 (by decide)
            · refine z_iload_n (j := 1) o dX7_isOfKind_12 rfl ?_
              refine z_iflt (tgt := 43) o dX7_isOfKind_13 (by decide) (fun c42 => ?_) (fun c42 => ?_)
              · exact absurd c42 (by decide)
              · refine z_iload_n (j := 1) o dX7_isOfKind_16 rfl ?_
                refine z_aboveLen o dX7_isOfKind_17 zf_X7_294 dX7_isOfKind_20 ?_
                refine z_icmpge (tgt := 43) o dX7_isOfKind_21 (by decide) (fun c43 => ?_) (fun c43 => ?_)
                · exact absurd c43 (by decide)
                · refine z_iload_n (j := 1) o dX7_isOfKind_24 rfl ?_
                  refine z_iload_n (j := 3) o dX7_isOfKind_25 rfl ?_
                  refine z_icmpne (tgt := 31) o dX7_isOfKind_26 (by decide) (fun c44 => ?_) (fun c44 => ?_)
                  · refine z_aboveAt (k := 0) (j1 := 1) o dX7_isOfKind_31 zf_X7_294 dX7_isOfKind_34 rfl dX7_isOfKind_35 (by unfold vp_in; decide) ?_
                    refine zo_rw (y := 0) (by decide) ?_
                    refine z_istore_n (i := 2) (lv2 := [(2, .int 0), (3, .int 1), (0, .int 4), (1, .int a)]) o dX7_isOfKind_36 rfl (by decide) rfl ?_
                    refine z_iinc (j := 1) (v := 2) (lv2 := [(3, .int 2), (2, .int 0), (0, .int 4), (1, .int a)]) o dX7_isOfKind_37 rfl (by decide) (by decide) rfl ?_
                    refine z_goto (tgt := 4) o dX7_isOfKind_40 (by decide) ?_
                    refine z_iload_n (j := 0) o dX7_isOfKind_4 rfl ?_
                    refine z_aboveLen o dX7_isOfKind_5 zf_X7_294 dX7_isOfKind_8 ?_
                    refine z_icmpge (tgt := 43) o dX7_isOfKind_9 (by decide) (fun c45 => ?_) (fun c45 => ?_)
                    · exact absurd c45 (by decide)
                    · refine z_iload_n (j := 1) o dX7_isOfKind_12 rfl ?_
                      refine z_iflt (tgt := 43) o dX7_isOfKind_13 (by decide) (fun c46 => ?_) (fun c46 => ?_)
                      · exact absurd c46 (by decide)
                      · refine z_iload_n (j := 1) o dX7_isOfKind_16 rfl ?_
                        refine z_aboveLen o dX7_isOfKind_17 zf_X7_294 dX7_isOfKind_20 ?_
                        refine z_icmpge (tgt := 43) o dX7_isOfKind_21 (by decide) (fun c47 => ?_) (fun c47 => ?_)
                        · exact absurd c47 (by decide)
                        · refine z_iload_n (j := 1) o dX7_isOfKind_24 rfl ?_
                          refine z_iload_n (j := 3) o dX7_isOfKind_25 rfl ?_
                          refine z_icmpne (tgt := 31) o dX7_isOfKind_26 (by decide) (fun c48 => ?_) (fun c48 => ?_)
                          · refine z_aboveAt (k := 0) (j1 := 1) o dX7_isOfKind_31 zf_X7_294 dX7_isOfKind_34 rfl dX7_isOfKind_35 (by unfold vp_in; decide) ?_
                            refine zo_rw (y := (-1)) (by decide) ?_
                            refine z_istore_n (i := 2) (lv2 := [(2, .int (-1)), (3, .int 2), (0, .int 4), (1, .int a)]) o dX7_isOfKind_36 rfl (by decide) rfl ?_
                            refine z_iinc (j := 1) (v := 3) (lv2 := [(3, .int 3), (2, .int (-1)), (0, .int 4), (1, .int a)]) o dX7_isOfKind_37 rfl (by decide) (by decide) rfl ?_
                            refine z_goto (tgt := 4) o dX7_isOfKind_40 (by decide) ?_
                            refine z_iload_n (j := 0) o dX7_isOfKind_4 rfl ?_
                            refine z_aboveLen o dX7_isOfKind_5 zf_X7_294 dX7_isOfKind_8 ?_
                            refine z_icmpge (tgt := 43) o dX7_isOfKind_9 (by decide) (fun c49 => ?_) (fun c49 => ?_)
                            · exact absurd c49 (by decide)
                            · refine z_iload_n (j := 1) o dX7_isOfKind_12 rfl ?_
                              refine z_iflt (tgt := 43) o dX7_isOfKind_13 (by decide) (fun c50 => ?_) (fun c50 => ?_)
                              · refine z_iconst (v := 0) o dX7_isOfKind_43 (by decide) ?_
                                exact kret _ _ _ _ dX7_isOfKind_44 ⟨rfl, by show _ = cg_kind 4 a; first | (unfold cg_kind; simp [*]; done) | (subst_vars; decide)⟩
                              · exact absurd c50 (by decide)
                          · refine z_iconst (v := 1) o dX7_isOfKind_29 (by decide) ?_
                            exact kret _ _ _ _ dX7_isOfKind_30 ⟨rfl, by show _ = cg_kind 4 a; first | (unfold cg_kind; simp [*]; done) | (subst_vars; decide)⟩
                  · refine z_iconst (v := 1) o dX7_isOfKind_29 (by decide) ?_
                    exact kret _ _ _ _ dX7_isOfKind_30 ⟨rfl, by show _ = cg_kind 4 a; first | (unfold cg_kind; simp [*]; done) | (subst_vars; decide)⟩
          · refine z_iconst (v := 1) o dX7_isOfKind_29 (by decide) ?_
            exact kret _ _ _ _ dX7_isOfKind_30 ⟨rfl, by show _ = cg_kind 4 a; first | (unfold cg_kind; simp [*]; done) | (subst_vars; decide)⟩
  · refine zo_lv [0, 1] rfl ?_
    show zW X B (zg B M N) 0 [(0, .int (5)), (1, .int a)] []
    refine z_iload_n (j := 0) o dX7_isOfKind_0 rfl ?_
    refine z_istore_n (i := 2) (lv2 := [(2, .int 5), (0, .int 5), (1, .int a)]) o dX7_isOfKind_1 rfl (by decide) rfl ?_
    refine z_iconst (v := 0) o dX7_isOfKind_2 (by decide) ?_
    refine z_istore_n (i := 3) (lv2 := [(3, .int 0), (2, .int 5), (0, .int 5), (1, .int a)]) o dX7_isOfKind_3 rfl (by decide) rfl ?_
    refine z_iload_n (j := 0) o dX7_isOfKind_4 rfl ?_
    refine z_aboveLen o dX7_isOfKind_5 zf_X7_294 dX7_isOfKind_8 ?_
    refine z_icmpge (tgt := 43) o dX7_isOfKind_9 (by decide) (fun c51 => ?_) (fun c51 => ?_)
    · exact absurd c51 (by decide)
    · refine z_iload_n (j := 1) o dX7_isOfKind_12 rfl ?_
      refine z_iflt (tgt := 43) o dX7_isOfKind_13 (by decide) (fun c52 => ?_) (fun c52 => ?_)
      · exact absurd c52 (by decide)
      · refine z_iload_n (j := 1) o dX7_isOfKind_16 rfl ?_
        refine z_aboveLen o dX7_isOfKind_17 zf_X7_294 dX7_isOfKind_20 ?_
        refine z_icmpge (tgt := 43) o dX7_isOfKind_21 (by decide) (fun c53 => ?_) (fun c53 => ?_)
        · exact absurd c53 (by decide)
        · refine z_iload_n (j := 1) o dX7_isOfKind_24 rfl ?_
          refine z_iload_n (j := 3) o dX7_isOfKind_25 rfl ?_
          refine z_icmpne (tgt := 31) o dX7_isOfKind_26 (by decide) (fun c54 => ?_) (fun c54 => ?_)
          · refine z_aboveAt (k := 0) (j1 := 1) o dX7_isOfKind_31 zf_X7_294 dX7_isOfKind_34 rfl dX7_isOfKind_35 (by unfold vp_in; decide) ?_
            refine zo_rw (y := 2) (by decide) ?_
            refine z_istore_n (i := 2) (lv2 := [(2, .int 2), (3, .int 0), (0, .int 5), (1, .int a)]) o dX7_isOfKind_36 rfl (by decide) rfl ?_
            refine z_iinc (j := 1) (v := 1) (lv2 := [(3, .int 1), (2, .int 2), (0, .int 5), (1, .int a)]) o dX7_isOfKind_37 rfl (by decide) (by decide) rfl ?_
            refine z_goto (tgt := 4) o dX7_isOfKind_40 (by decide) ?_
            refine z_iload_n (j := 0) o dX7_isOfKind_4 rfl ?_
            refine z_aboveLen o dX7_isOfKind_5 zf_X7_294 dX7_isOfKind_8 ?_
            refine z_icmpge (tgt := 43) o dX7_isOfKind_9 (by decide) (fun c55 => ?_) (fun c55 => ?_)
            · exact absurd c55 (by decide)
            · refine z_iload_n (j := 1) o dX7_isOfKind_12 rfl ?_
              refine z_iflt (tgt := 43) o dX7_isOfKind_13 (by decide) (fun c56 => ?_) (fun c56 => ?_)
              · exact absurd c56 (by decide)
              · refine z_iload_n (j := 1) o dX7_isOfKind_16 rfl ?_
                refine z_aboveLen o dX7_isOfKind_17 zf_X7_294 dX7_isOfKind_20 ?_
                refine z_icmpge (tgt := 43) o dX7_isOfKind_21 (by decide) (fun c57 => ?_) (fun c57 => ?_)
                · exact absurd c57 (by decide)
                · refine z_iload_n (j := 1) o dX7_isOfKind_24 rfl ?_
                  refine z_iload_n (j := 3) o dX7_isOfKind_25 rfl ?_
                  refine z_icmpne (tgt := 31) o dX7_isOfKind_26 (by decide) (fun c58 => ?_) (fun c58 => ?_)
                  · refine z_aboveAt (k := 0) (j1 := 1) o dX7_isOfKind_31 zf_X7_294 dX7_isOfKind_34 rfl dX7_isOfKind_35 (by unfold vp_in; decide) ?_
                    refine zo_rw (y := 0) (by decide) ?_
                    refine z_istore_n (i := 2) (lv2 := [(2, .int 0), (3, .int 1), (0, .int 5), (1, .int a)]) o dX7_isOfKind_36 rfl (by decide) rfl ?_
                    refine z_iinc (j := 1) (v := 2) (lv2 := [(3, .int 2), (2, .int 0), (0, .int 5), (1, .int a)]) o dX7_isOfKind_37 rfl (by decide) (by decide) rfl ?_
                    refine z_goto (tgt := 4) o dX7_isOfKind_40 (by decide) ?_
                    refine z_iload_n (j := 0) o dX7_isOfKind_4 rfl ?_
                    refine z_aboveLen o dX7_isOfKind_5 zf_X7_294 dX7_isOfKind_8 ?_
                    refine z_icmpge (tgt := 43) o dX7_isOfKind_9 (by decide) (fun c59 => ?_) (fun c59 => ?_)
                    · exact absurd c59 (by decide)
                    · refine z_iload_n (j := 1) o dX7_isOfKind_12 rfl ?_
                      refine z_iflt (tgt := 43) o dX7_isOfKind_13 (by decide) (fun c60 => ?_) (fun c60 => ?_)
                      · exact absurd c60 (by decide)
                      · refine z_iload_n (j := 1) o dX7_isOfKind_16 rfl ?_
                        refine z_aboveLen o dX7_isOfKind_17 zf_X7_294 dX7_isOfKind_20 ?_
                        refine z_icmpge (tgt := 43) o dX7_isOfKind_21 (by decide) (fun c61 => ?_) (fun c61 => ?_)
                        · exact absurd c61 (by decide)
                        · refine z_iload_n (j := 1) o dX7_isOfKind_24 rfl ?_
                          refine z_iload_n (j := 3) o dX7_isOfKind_25 rfl ?_
                          refine z_icmpne (tgt := 31) o dX7_isOfKind_26 (by decide) (fun c62 => ?_) (fun c62 => ?_)
                          · refine z_aboveAt (k := 0) (j1 := 1) o dX7_isOfKind_31 zf_X7_294 dX7_isOfKind_34 rfl dX7_isOfKind_35 (by unfold vp_in; decide) ?_
                            refine zo_rw (y := (-1)) (by decide) ?_
                            refine z_istore_n (i := 2) (lv2 := [(2, .int (-1)), (3, .int 2), (0, .int 5), (1, .int a)]) o dX7_isOfKind_36 rfl (by decide) rfl ?_
                            refine z_iinc (j := 1) (v := 3) (lv2 := [(3, .int 3), (2, .int (-1)), (0, .int 5), (1, .int a)]) o dX7_isOfKind_37 rfl (by decide) (by decide) rfl ?_
                            refine z_goto (tgt := 4) o dX7_isOfKind_40 (by decide) ?_
                            refine z_iload_n (j := 0) o dX7_isOfKind_4 rfl ?_
                            refine z_aboveLen o dX7_isOfKind_5 zf_X7_294 dX7_isOfKind_8 ?_
                            refine z_icmpge (tgt := 43) o dX7_isOfKind_9 (by decide) (fun c63 => ?_) (fun c63 => ?_)
                            · exact absurd c63 (by decide)
                            · refine z_iload_n (j := 1) o dX7_isOfKind_12 rfl ?_
                              refine z_iflt (tgt := 43) o dX7_isOfKind_13 (by decide) (fun c64 => ?_) (fun c64 => ?_)
                              · refine z_iconst (v := 0) o dX7_isOfKind_43 (by decide) ?_
                                exact kret _ _ _ _ dX7_isOfKind_44 ⟨rfl, by show _ = cg_kind 5 a; first | (unfold cg_kind; simp [*]; done) | (subst_vars; decide)⟩
                              · exact absurd c64 (by decide)
                          · refine z_iconst (v := 1) o dX7_isOfKind_29 (by decide) ?_
                            exact kret _ _ _ _ dX7_isOfKind_30 ⟨rfl, by show _ = cg_kind 5 a; first | (unfold cg_kind; simp [*]; done) | (subst_vars; decide)⟩
                  · refine z_iconst (v := 1) o dX7_isOfKind_29 (by decide) ?_
                    exact kret _ _ _ _ dX7_isOfKind_30 ⟨rfl, by show _ = cg_kind 5 a; first | (unfold cg_kind; simp [*]; done) | (subst_vars; decide)⟩
          · refine z_iconst (v := 1) o dX7_isOfKind_29 (by decide) ?_
            exact kret _ _ _ _ dX7_isOfKind_30 ⟨rfl, by show _ = cg_kind 5 a; first | (unfold cg_kind; simp [*]; done) | (subst_vars; decide)⟩
  · refine zo_lv [0, 1] rfl ?_
    show zW X B (zg B M N) 0 [(0, .int (6)), (1, .int a)] []
    refine z_iload_n (j := 0) o dX7_isOfKind_0 rfl ?_
    refine z_istore_n (i := 2) (lv2 := [(2, .int 6), (0, .int 6), (1, .int a)]) o dX7_isOfKind_1 rfl (by decide) rfl ?_
    refine z_iconst (v := 0) o dX7_isOfKind_2 (by decide) ?_
    refine z_istore_n (i := 3) (lv2 := [(3, .int 0), (2, .int 6), (0, .int 6), (1, .int a)]) o dX7_isOfKind_3 rfl (by decide) rfl ?_
    refine z_iload_n (j := 0) o dX7_isOfKind_4 rfl ?_
    refine z_aboveLen o dX7_isOfKind_5 zf_X7_294 dX7_isOfKind_8 ?_
    refine z_icmpge (tgt := 43) o dX7_isOfKind_9 (by decide) (fun c65 => ?_) (fun c65 => ?_)
    · exact absurd c65 (by decide)
    · refine z_iload_n (j := 1) o dX7_isOfKind_12 rfl ?_
      refine z_iflt (tgt := 43) o dX7_isOfKind_13 (by decide) (fun c66 => ?_) (fun c66 => ?_)
      · exact absurd c66 (by decide)
      · refine z_iload_n (j := 1) o dX7_isOfKind_16 rfl ?_
        refine z_aboveLen o dX7_isOfKind_17 zf_X7_294 dX7_isOfKind_20 ?_
        refine z_icmpge (tgt := 43) o dX7_isOfKind_21 (by decide) (fun c67 => ?_) (fun c67 => ?_)
        · exact absurd c67 (by decide)
        · refine z_iload_n (j := 1) o dX7_isOfKind_24 rfl ?_
          refine z_iload_n (j := 3) o dX7_isOfKind_25 rfl ?_
          refine z_icmpne (tgt := 31) o dX7_isOfKind_26 (by decide) (fun c68 => ?_) (fun c68 => ?_)
          · refine z_aboveAt (k := 0) (j1 := 1) o dX7_isOfKind_31 zf_X7_294 dX7_isOfKind_34 rfl dX7_isOfKind_35 (by unfold vp_in; decide) ?_
            refine zo_rw (y := 0) (by decide) ?_
            refine z_istore_n (i := 2) (lv2 := [(2, .int 0), (3, .int 0), (0, .int 6), (1, .int a)]) o dX7_isOfKind_36 rfl (by decide) rfl ?_
            refine z_iinc (j := 1) (v := 1) (lv2 := [(3, .int 1), (2, .int 0), (0, .int 6), (1, .int a)]) o dX7_isOfKind_37 rfl (by decide) (by decide) rfl ?_
            refine z_goto (tgt := 4) o dX7_isOfKind_40 (by decide) ?_
            refine z_iload_n (j := 0) o dX7_isOfKind_4 rfl ?_
            refine z_aboveLen o dX7_isOfKind_5 zf_X7_294 dX7_isOfKind_8 ?_
            refine z_icmpge (tgt := 43) o dX7_isOfKind_9 (by decide) (fun c69 => ?_) (fun c69 => ?_)
            · exact absurd c69 (by decide)
            · refine z_iload_n (j := 1) o dX7_isOfKind_12 rfl ?_
              refine z_iflt (tgt := 43) o dX7_isOfKind_13 (by decide) (fun c70 => ?_) (fun c70 => ?_)
              · exact absurd c70 (by decide)
              · refine z_iload_n (j := 1) o dX7_isOfKind_16 rfl ?_
                refine z_aboveLen o dX7_isOfKind_17 zf_X7_294 dX7_isOfKind_20 ?_
                refine z_icmpge (tgt := 43) o dX7_isOfKind_21 (by decide) (fun c71 => ?_) (fun c71 => ?_)
                · exact absurd c71 (by decide)
                · refine z_iload_n (j := 1) o dX7_isOfKind_24 rfl ?_
                  refine z_iload_n (j := 3) o dX7_isOfKind_25 rfl ?_
                  refine z_icmpne (tgt := 31) o dX7_isOfKind_26 (by decide) (fun c72 => ?_) (fun c72 => ?_)
                  · refine z_aboveAt (k := 0) (j1 := 1) o dX7_isOfKind_31 zf_X7_294 dX7_isOfKind_34 rfl dX7_isOfKind_35 (by unfold vp_in; decide) ?_
                    refine zo_rw (y := (-1)) (by decide) ?_
                    refine z_istore_n (i := 2) (lv2 := [(2, .int (-1)), (3, .int 1), (0, .int 6), (1, .int a)]) o dX7_isOfKind_36 rfl (by decide) rfl ?_
                    refine z_iinc (j := 1) (v := 2) (lv2 := [(3, .int 2), (2, .int (-1)), (0, .int 6), (1, .int a)]) o dX7_isOfKind_37 rfl (by decide) (by decide) rfl ?_
                    refine z_goto (tgt := 4) o dX7_isOfKind_40 (by decide) ?_
                    refine z_iload_n (j := 0) o dX7_isOfKind_4 rfl ?_
                    refine z_aboveLen o dX7_isOfKind_5 zf_X7_294 dX7_isOfKind_8 ?_
                    refine z_icmpge (tgt := 43) o dX7_isOfKind_9 (by decide) (fun c73 => ?_) (fun c73 => ?_)
                    · exact absurd c73 (by decide)
                    · refine z_iload_n (j := 1) o dX7_isOfKind_12 rfl ?_
                      refine z_iflt (tgt := 43) o dX7_isOfKind_13 (by decide) (fun c74 => ?_) (fun c74 => ?_)
                      · refine z_iconst (v := 0) o dX7_isOfKind_43 (by decide) ?_
                        exact kret _ _ _ _ dX7_isOfKind_44 ⟨rfl, by show _ = cg_kind 6 a; first | (unfold cg_kind; simp [*]; done) | (subst_vars; decide)⟩
                      · exact absurd c74 (by decide)
                  · refine z_iconst (v := 1) o dX7_isOfKind_29 (by decide) ?_
                    exact kret _ _ _ _ dX7_isOfKind_30 ⟨rfl, by show _ = cg_kind 6 a; first | (unfold cg_kind; simp [*]; done) | (subst_vars; decide)⟩
          · refine z_iconst (v := 1) o dX7_isOfKind_29 (by decide) ?_
            exact kret _ _ _ _ dX7_isOfKind_30 ⟨rfl, by show _ = cg_kind 6 a; first | (unfold cg_kind; simp [*]; done) | (subst_vars; decide)⟩

