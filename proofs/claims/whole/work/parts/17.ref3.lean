/-! the reference: what is inside, brands, where posts head, moves -/
set_option maxHeartbeats 4000000 in
set_option maxRecDepth 100000 in
theorem c_X8_insideOf {B : zB} (hB : znn B = 95) (M : zM) (N : zN) (a : Nat) (ha : a < 4) (hok : zOkR (M 83)) : zCl B (zg B M N) yX8_insideOf cX8_insideOf 8 (some .long) 2 [zref B 82, .int (nI a)] (fun r g' => g' = zg B M N ∧ r = sp_ins (M 83) a) := by
  refine zCl_of (by decide +kernel) (Nat.le_of_ble_eq_true rfl) ?_
  intro X o kret
  show zW X B (zg B M N) 0 [(0, zref B 82), (1, .int (nI a))] []
  refine z_aload_n (j := 0) o dX8_insideOf_0 rfl ?_
  refine z_iload_n (j := 1) o dX8_insideOf_1 rfl ?_
  refine z_callVl (As := [.int (nI a)]) (n := 1) (st := []) o dX8_insideOf_2 (c_X8_postsOf hB M N a _ (by omega) (ok_np2 hok ha).1 (ok_np2 hok ha).2) zc_X8_73 (by decide) (i := 82) (by rw [hB]; exact zsh_lt rfl (by decide)) (zg_o rfl (by decide)) rfl rfl rfl (Nat.le_of_ble_eq_true rfl) (fun r1 g2 p3 => ?_)
  obtain ⟨rfl, rfl⟩ := p3
  refine z_ldc2 (v := (-1)) o dX8_insideOf_5 zk_X8_77 ?_
  refine z_lxor o dX8_insideOf_8 ?_
  refine z_lstore_n (i := 2) (lv2 := [(2, .long ((sp_pset (M 83) a) ^^^ (-1))), (0, zref B 82), (1, .int (nI a))]) o dX8_insideOf_9 rfl (by decide) rfl ?_
  refine z_ldc2 (v := (-35604928818740737)) o dX8_insideOf_10 zk_X8_79 ?_
  refine z_lload_n (j := 0) o dX8_insideOf_13 rfl ?_
  refine z_land o dX8_insideOf_14 ?_
  refine z_lstore (i := 4) (lv2 := [(4, .long ((-35604928818740737) &&& ((sp_pset (M 83) a) ^^^ (-1)))), (2, .long ((sp_pset (M 83) a) ^^^ (-1))), (0, zref B 82), (1, .int (nI a))]) o dX8_insideOf_15 (by decide) rfl ?_
  refine z_lconst (v := 0) o dX8_insideOf_17 (by decide) ?_
  refine z_lstore (i := 6) (lv2 := [(6, .long 0), (4, .long ((-35604928818740737) &&& ((sp_pset (M 83) a) ^^^ (-1)))), (2, .long ((sp_pset (M 83) a) ^^^ (-1))), (0, zref B 82), (1, .int (nI a))]) o dX8_insideOf_18 (by decide) rfl ?_
  have LOOP : ∀ nq kq : Nat, kq + nq = 65 → zW X B (zg B M N) 20 [(4, .long (sp_it (sp_pset (M 83) a ^^^ (-1)) kq)), (6, .long (sp_was (sp_pset (M 83) a ^^^ (-1)) kq)), (2, .long (sp_pset (M 83) a ^^^ (-1))), (0, zref B 82), (1, .int (nI a))] [] := by
    intro nq
    induction nq with
    | zero =>
      intro kq hkkq
      obtain rfl : kq = 65 := by omega
      refine z_lload (j := 0) o dX8_insideOf_20 rfl ?_
      refine z_lload (j := 1) o dX8_insideOf_22 rfl ?_
      refine z_lcmp o dX8_insideOf_24 ?_
      refine z_ifeq (tgt := 47) o dX8_insideOf_25 (by decide) (fun c4 => ?_) (fun c4 => ?_)
      · refine z_lload_n (j := 2) o dX8_insideOf_47 rfl ?_
        refine z_lload (j := 0) o dX8_insideOf_48 rfl ?_
        refine z_ldc2 (v := (-1)) o dX8_insideOf_50 zk_X8_77 ?_
        refine z_lxor o dX8_insideOf_53 ?_
        refine z_land o dX8_insideOf_54 ?_
        exact kret _ _ _ _ dX8_insideOf_55 ⟨rfl, by rw [sp_it_done _ (by omega) (lg0.mp c4)]; rfl⟩
      · exact absurd (lg0.mpr (sp_it_fix _)) c4
    | succ nq ihkq =>
      intro kq hkkq
      have hlkq : kq < 65 := by omega
      refine z_lload (j := 0) o dX8_insideOf_20 rfl ?_
      refine z_lload (j := 1) o dX8_insideOf_22 rfl ?_
      refine z_lcmp o dX8_insideOf_24 ?_
      refine z_ifeq (tgt := 47) o dX8_insideOf_25 (by decide) (fun c5 => ?_) (fun c5 => ?_)
      · refine z_lload_n (j := 2) o dX8_insideOf_47 rfl ?_
        refine z_lload (j := 0) o dX8_insideOf_48 rfl ?_
        refine z_ldc2 (v := (-1)) o dX8_insideOf_50 zk_X8_77 ?_
        refine z_lxor o dX8_insideOf_53 ?_
        refine z_land o dX8_insideOf_54 ?_
        exact kret _ _ _ _ dX8_insideOf_55 ⟨rfl, by rw [sp_it_done _ (by omega) (lg0.mp c5)]; rfl⟩
      · refine z_lload (j := 0) o dX8_insideOf_28 rfl ?_
        refine z_lstore (i := 6) (lv2 := [(6, .long (sp_it (sp_pset (M 83) a ^^^ (-1)) kq)), (4, .long (sp_it (sp_pset (M 83) a ^^^ (-1)) kq)), (2, .long (sp_pset (M 83) a ^^^ (-1))), (0, zref B 82), (1, .int (nI a))]) o dX8_insideOf_30 (by decide) rfl ?_
        refine z_lload (j := 1) o dX8_insideOf_32 rfl ?_
        refine z_lload (j := 1) o dX8_insideOf_34 rfl ?_
        refine z_callSl (As := [.long (sp_it (sp_pset (M 83) a ^^^ (-1)) kq)]) (n := 1) (st := [.long (sp_it (sp_pset (M 83) a ^^^ (-1)) kq)]) o dX8_insideOf_36 (c_X8_beside hB M N (sp_it (sp_pset (M 83) a ^^^ (-1)) kq)) zc_X8_81 (by decide) rfl rfl (Nat.le_of_ble_eq_true rfl) (fun r6 g7 p8 => ?_)
        obtain ⟨rfl, rfl⟩ := p8
        refine z_lload_n (j := 2) o dX8_insideOf_39 rfl ?_
        refine z_land o dX8_insideOf_40 ?_
        refine z_lor o dX8_insideOf_41 ?_
        refine z_lstore (i := 4) (lv2 := [(4, .long ((sp_it (sp_pset (M 83) a ^^^ (-1)) kq) ||| ((sp_beside (sp_it (sp_pset (M 83) a ^^^ (-1)) kq)) &&& (sp_pset (M 83) a ^^^ (-1))))), (6, .long (sp_it (sp_pset (M 83) a ^^^ (-1)) kq)), (2, .long (sp_pset (M 83) a ^^^ (-1))), (0, zref B 82), (1, .int (nI a))]) o dX8_insideOf_42 (by decide) rfl ?_
        refine z_goto (tgt := 20) o dX8_insideOf_44 (by decide) ?_
        refine zo_lv [0, 1, 2, 3, 4] rfl ?_
        exact ihkq (kq + 1) (by omega)
  refine zo_lv [1, 0, 2, 3, 4] rfl ?_
  exact LOOP 65 0 rfl

set_option maxHeartbeats 4000000 in
set_option maxRecDepth 100000 in
theorem c_X8_brandOf {B : zB} (hB : znn B = 95) (M : zM) (N : zN) (c : Nat) (hc : c < 64) (hok : zOkR (M 83)) : zCi B (zg B M N) yX8_brandOf cX8_brandOf 3 (some .int) 3 [zref B 82, .int (nI c)] (fun r g' => g' = zg B M N ∧ r = sp_brand (M 83) c) := by
  refine zCi_of (by decide +kernel) (Nat.le_of_ble_eq_true rfl) .int rfl (fun _ _ _ => rfl) ?_
  intro X o kret
  show zW X B (zg B M N) 0 [(0, zref B 82), (1, .int (nI c))] []
  obtain ⟨hnf, hnf4⟩ := ok_nf2 hok
  refine z_iconst (v := 0) o dX8_brandOf_0 (by decide) ?_
  refine z_istore_n (i := 2) (lv2 := [(2, .int 0), (0, zref B 82), (1, .int (nI c))]) o dX8_brandOf_1 rfl (by decide) rfl ?_
  have LOOP : ∀ nq kq : Nat, kq + nq = sp_nf (M 83) → sp_brand (M 83) c = sp_br (M 83) c nq kq → zW X B (zg B M N) 2 [(2, .int (nI kq)), (0, zref B 82), (1, .int (nI c))] [] := by
    intro nq
    induction nq with
    | zero =>
      intro kq hkq hs
      have hz : kq = sp_nf (M 83) := by omega
      refine z_iload_n (j := 0) o dX8_brandOf_2 rfl ?_
      refine z_aload_n (j := 1) o dX8_brandOf_3 rfl ?_
      refine zo_get (i := 82) o hB dX8_brandOf_4 zf_X8_9 rfl (by decide) rfl ?_
      refine z_iconst (v := 2) o dX8_brandOf_7 (by decide) ?_
      refine zo_iald (i := 83) (j := 2) o hB dX8_brandOf_8 rfl (show 2 < 524 by omega) (by decide) ?_
      refine zo_rw (y := nI (sp_nf (M 83))) (hnf) ?_
      refine z_icmpge (tgt := 34) o dX8_brandOf_9 (by decide) (fun c1 => ?_) (fun c1 => ?_)
      · refine z_iconst (v := (-1)) o dX8_brandOf_34 (by decide) ?_
        exact kret _ _ _ _ dX8_brandOf_35 ⟨rfl, by rw [hs]; rfl⟩
      · exact absurd c1 (nI_nlt (a := kq) (b := sp_nf (M 83)) (by omega) (by omega))
    | succ nq ih =>
      intro kq hkq hs
      have hlt : kq < sp_nf (M 83) := by omega
      refine z_iload_n (j := 0) o dX8_brandOf_2 rfl ?_
      refine z_aload_n (j := 1) o dX8_brandOf_3 rfl ?_
      refine zo_get (i := 82) o hB dX8_brandOf_4 zf_X8_9 rfl (by decide) rfl ?_
      refine z_iconst (v := 2) o dX8_brandOf_7 (by decide) ?_
      refine zo_iald (i := 83) (j := 2) o hB dX8_brandOf_8 rfl (show 2 < 524 by omega) (by decide) ?_
      refine zo_rw (y := nI (sp_nf (M 83))) (hnf) ?_
      refine z_icmpge (tgt := 34) o dX8_brandOf_9 (by decide) (fun c2 => ?_) (fun c2 => ?_)
      · exact absurd (nI_lt (a := kq) (b := sp_nf (M 83)) (by omega) (by omega)) c2
      · refine z_aload_n (j := 1) o dX8_brandOf_12 rfl ?_
        refine z_iload_n (j := 0) o dX8_brandOf_13 rfl ?_
        refine z_callVl (As := [.int (nI kq)]) (n := 1) (st := []) o dX8_brandOf_14 (c_X8_insideOf hB M N kq (by omega) hok) zc_X8_85 (by decide) (i := 82) (by rw [hB]; exact zsh_lt rfl (by decide)) (zg_o rfl (by decide)) rfl rfl rfl (Nat.le_of_ble_eq_true rfl) (fun r3 g4 p5 => ?_)
        obtain ⟨rfl, rfl⟩ := p5
        refine z_iload_n (j := 2) o dX8_brandOf_17 rfl ?_
        refine z_lushr o dX8_brandOf_18 ?_
        refine z_lconst (v := 1) o dX8_brandOf_19 (by decide) ?_
        refine z_land o dX8_brandOf_20 ?_
        refine z_lconst (v := 1) o dX8_brandOf_21 (by decide) ?_
        refine z_lcmp o dX8_brandOf_22 ?_
        refine z_ifne (tgt := 28) o dX8_brandOf_23 (by decide) (fun c6 => ?_) (fun c6 => ?_)
        · have hs2 := hs.trans (sp_br_n (fun q => c6 (lg0.mpr q)))
          refine z_iinc (j := 0) (v := nI (kq + 1)) (lv2 := [(2, .int (nI (kq + 1))), (0, zref B 82), (1, .int (nI c))]) o dX8_brandOf_28 rfl (zn_ofInt _) (by decide) rfl ?_
          refine z_goto (tgt := 2) o dX8_brandOf_31 (by decide) ?_
          refine zo_lv [0, 1, 2] rfl ?_
          exact ih (kq + 1) (by omega) hs2
        · have hs2 := hs.trans (sp_br_y (lg0.mp c6))
          refine z_iload_n (j := 0) o dX8_brandOf_26 rfl ?_
          exact kret _ _ _ _ dX8_brandOf_27 ⟨rfl, hs2.symm⟩
  exact LOOP (sp_nf (M 83)) 0 (by omega) rfl

set_option maxHeartbeats 4000000 in
set_option maxRecDepth 100000 in
theorem c_X8_headsOf {B : zB} (hB : znn B = 95) (M : zM) (N : zN) (a p : Nat) (ha : a < 4) (hp : p < 8) (hok : zOkR (M 83)) : zCi B (zg B M N) yX8_headsOf cX8_headsOf 6 (some .int) 1 [zref B 82, .int (nI a), .int (nI p)] (fun r g' => g' = zg B M N ∧ r = sp_heads (M 83) a p) := by
  refine zCi_of (by decide +kernel) (Nat.le_of_ble_eq_true rfl) .int rfl (fun _ _ _ => rfl) ?_
  intro X o kret
  show zW X B (zg B M N) 0 [(0, zref B 82), (1, .int (nI a)), (2, .int (nI p))] []
  obtain ⟨m9, hm9, em9⟩ := ok_f hok ha (j := 1) (by decide)
  have hdv : ¬ M 83 (6 + 13 * a + 1) + 1 = 0 := by
    rw [em9, nI_1]
    have h9 : zmax 1 = 9 := rfl
    exact nI_ne0 (by omega) (by omega)
  refine z_aload_n (j := 0) o dX8_headsOf_0 rfl ?_
  refine zo_get (i := 82) o hB dX8_headsOf_1 zf_X8_9 rfl (by decide) rfl ?_
  refine z_iconst (v := 0) o dX8_headsOf_4 (by decide) ?_
  refine zo_iald (i := 83) (j := 0) o hB dX8_headsOf_5 rfl (show 0 < 524 by omega) (by decide) ?_
  refine z_istore_n (i := 3) (lv2 := [(3, .int (M 83 0)), (0, zref B 82), (1, .int (nI a)), (2, .int (nI p))]) o dX8_headsOf_6 rfl (by decide) rfl ?_
  refine z_aload_n (j := 1) o dX8_headsOf_7 rfl ?_
  refine z_iload_n (j := 2) o dX8_headsOf_8 rfl ?_
  refine z_iconst (v := 2) o dX8_headsOf_9 (by decide) ?_
  refine z_callVi (As := [.int (nI a), .int 2]) (n := 2) (st := []) o dX8_headsOf_10 (c_X8_of hB M N a 2 (by omega)) zc_X8_55 (by decide) (i := 82) (by rw [hB]; exact zsh_lt rfl (by decide)) (zg_o rfl (by decide)) rfl rfl rfl (Nat.le_of_ble_eq_true rfl) (fun r1 g2 p3 => ?_)
  obtain ⟨rfl, rfl⟩ := p3
  refine z_istore (i := 4) (lv2 := [(4, .int (M 83 (6 + 13 * a + 2))), (3, .int (M 83 0)), (0, zref B 82), (1, .int (nI a)), (2, .int (nI p))]) o dX8_headsOf_13 (by decide) rfl ?_
  refine z_iload_n (j := 1) o dX8_headsOf_15 rfl ?_
  refine z_iconst (v := 2) o dX8_headsOf_16 (by decide) ?_
  refine z_irem o dX8_headsOf_17 (by decide) ?_
  refine z_iconst (v := 1) o dX8_headsOf_18 (by decide) ?_
  have J5 : zW X B (zg B M N) 28 [(4, .int (M 83 (6 + 13 * a + 2))), (3, .int (M 83 0)), (0, zref B 82), (1, .int (nI a)), (2, .int (nI p))] [.int (if ((M 83 0) - (M 83 0) / 2 * 2) = 1 then (-1) else M 83 (6 + 13 * a + 2))] := by
    refine z_istore (i := 5) (lv2 := [(5, .int (if ((M 83 0) - (M 83 0) / 2 * 2) = 1 then (-1) else M 83 (6 + 13 * a + 2))), (4, .int (M 83 (6 + 13 * a + 2))), (3, .int (M 83 0)), (0, zref B 82), (1, .int (nI a)), (2, .int (nI p))]) o dX8_headsOf_28 (by decide) rfl ?_
    refine z_aload_n (j := 3) o dX8_headsOf_30 rfl ?_
    refine z_iload_n (j := 4) o dX8_headsOf_31 rfl ?_
    refine z_iconst (v := 0) o dX8_headsOf_32 (by decide) ?_
    refine z_callVi (As := [.int (nI a), .int 0]) (n := 2) (st := []) o dX8_headsOf_33 (c_X8_of hB M N a 0 (by omega)) zc_X8_55 (by decide) (i := 82) (by rw [hB]; exact zsh_lt rfl (by decide)) (zg_o rfl (by decide)) rfl rfl rfl (Nat.le_of_ble_eq_true rfl) (fun r6 g7 p8 => ?_)
    obtain ⟨rfl, rfl⟩ := p8
    refine z_tcase 2 (tgt := 72) o dX8_headsOf_36 (by decide) (by decide) rfl (by decide) (fun c9 => ?_) (fun c9 => ?_)
    · refine z_iload (j := 0) o dX8_headsOf_72 rfl ?_
      exact kret _ _ _ _ dX8_headsOf_74 ⟨rfl, by unfold sp_heads zirem; (repeat' split) <;> first | rfl | contradiction⟩
    refine z_tcase 3 (tgt := 75) o dX8_headsOf_36 (by decide) (by decide) rfl (by decide) (fun c10 => ?_) (fun c10 => ?_)
    · refine z_iload (j := 1) o dX8_headsOf_75 rfl ?_
      refine z_iload_n (j := 2) o dX8_headsOf_77 rfl ?_
      refine z_aload_n (j := 3) o dX8_headsOf_78 rfl ?_
      refine z_iload_n (j := 4) o dX8_headsOf_79 rfl ?_
      refine z_iconst (v := 1) o dX8_headsOf_80 (by decide) ?_
      refine z_callVi (As := [.int (nI a), .int 1]) (n := 2) (st := [.int (M 83 0), .int (M 83 (6 + 13 * a + 2))]) o dX8_headsOf_81 (c_X8_of hB M N a 1 (by omega)) zc_X8_55 (by decide) (i := 82) (by rw [hB]; exact zsh_lt rfl (by decide)) (zg_o rfl (by decide)) rfl rfl rfl (Nat.le_of_ble_eq_true rfl) (fun r11 g12 p13 => ?_)
      obtain ⟨rfl, rfl⟩ := p13
      refine z_iconst (v := 1) o dX8_headsOf_84 (by decide) ?_
      refine z_iadd o dX8_headsOf_85 ?_
      refine z_idiv o dX8_headsOf_86 (hdv) ?_
      refine z_iadd o dX8_headsOf_87 ?_
      refine z_iconst (v := 4) o dX8_headsOf_88 (by decide) ?_
      refine z_irem o dX8_headsOf_89 (by decide) ?_
      exact kret _ _ _ _ dX8_headsOf_90 ⟨rfl, by unfold sp_heads zirem; (repeat' split) <;> first | rfl | contradiction⟩
    refine z_tcase 4 (tgt := 91) o dX8_headsOf_36 (by decide) (by decide) rfl (by decide) (fun c14 => ?_) (fun c14 => ?_)
    · refine z_iload_n (j := 2) o dX8_headsOf_91 rfl ?_
      refine z_iconst (v := 4) o dX8_headsOf_92 (by decide) ?_
      refine z_irem o dX8_headsOf_93 (by decide) ?_
      refine z_iconst (v := 1) o dX8_headsOf_94 (by decide) ?_
      refine z_icmple (tgt := 107) o dX8_headsOf_95 (by decide) (fun c15 => ?_) (fun c15 => ?_)
      · refine z_iload (j := 1) o dX8_headsOf_107 rfl ?_
        exact kret _ _ _ _ dX8_headsOf_109 ⟨rfl, by unfold sp_heads zirem; (repeat' split) <;> first | rfl | contradiction⟩
      · refine z_iload (j := 1) o dX8_headsOf_98 rfl ?_
        refine z_iconst (v := 2) o dX8_headsOf_100 (by decide) ?_
        refine z_iadd o dX8_headsOf_101 ?_
        refine z_iconst (v := 4) o dX8_headsOf_102 (by decide) ?_
        refine z_irem o dX8_headsOf_103 (by decide) ?_
        refine z_goto (tgt := 109) o dX8_headsOf_104 (by decide) ?_
        exact kret _ _ _ _ dX8_headsOf_109 ⟨rfl, by unfold sp_heads zirem; (repeat' split) <;> first | rfl | contradiction⟩
    refine z_tcase 5 (tgt := 110) o dX8_headsOf_36 (by decide) (by decide) rfl (by decide) (fun c16 => ?_) (fun c16 => ?_)
    · refine z_iload_n (j := 5) o dX8_headsOf_110 rfl ?_
      refine z_ifne (tgt := 118) o dX8_headsOf_111 (by decide) (fun c17 => ?_) (fun c17 => ?_)
      · refine z_iload (j := 0) o dX8_headsOf_118 rfl ?_
        exact kret _ _ _ _ dX8_headsOf_120 ⟨rfl, by unfold sp_heads zirem; (repeat' split) <;> first | rfl | contradiction⟩
      · refine z_iconst (v := (-1)) o dX8_headsOf_114 (by decide) ?_
        refine z_goto (tgt := 120) o dX8_headsOf_115 (by decide) ?_
        exact kret _ _ _ _ dX8_headsOf_120 ⟨rfl, by unfold sp_heads zirem; (repeat' split) <;> first | rfl | contradiction⟩
    refine z_tcase 6 (tgt := 121) o dX8_headsOf_36 (by decide) (by decide) rfl (by decide) (fun c18 => ?_) (fun c18 => ?_)
    · refine z_aload_n (j := 3) o dX8_headsOf_121 rfl ?_
      refine z_iload_n (j := 4) o dX8_headsOf_122 rfl ?_
      refine z_iconst (v := 1) o dX8_headsOf_123 (by decide) ?_
      refine z_callVi (As := [.int (nI a), .int 1]) (n := 2) (st := []) o dX8_headsOf_124 (c_X8_of hB M N a 1 (by omega)) zc_X8_55 (by decide) (i := 82) (by rw [hB]; exact zsh_lt rfl (by decide)) (zg_o rfl (by decide)) rfl rfl rfl (Nat.le_of_ble_eq_true rfl) (fun r19 g20 p21 => ?_)
      obtain ⟨rfl, rfl⟩ := p21
      refine z_bipush (v := 9) o dX8_headsOf_127 (by decide) ?_
      refine z_icmpne (tgt := 137) o dX8_headsOf_129 (by decide) (fun c22 => ?_) (fun c22 => ?_)
      · refine z_iconst (v := (-1)) o dX8_headsOf_137 (by decide) ?_
        exact kret _ _ _ _ dX8_headsOf_138 ⟨rfl, by unfold sp_heads zirem; (repeat' split) <;> first | rfl | contradiction⟩
      · refine z_iload (j := 1) o dX8_headsOf_132 rfl ?_
        refine z_goto (tgt := 138) o dX8_headsOf_134 (by decide) ?_
        exact kret _ _ _ _ dX8_headsOf_138 ⟨rfl, by unfold sp_heads zirem; (repeat' split) <;> first | rfl | contradiction⟩
    refine z_tdef (tgt := 139) o dX8_headsOf_36 (by have := lv_neT (a := 2) c9 rfl; have := lv_neT (a := 3) c10 rfl; have := lv_neT (a := 4) c14 rfl; have := lv_neT (a := 5) c16 rfl; have := lv_neT (a := 6) c18 rfl; omega) (by decide) ?_
    refine z_iload (j := 1) o dX8_headsOf_139 rfl ?_
    exact kret _ _ _ _ dX8_headsOf_141 ⟨rfl, by unfold sp_heads zirem; (repeat' split) <;> first | rfl | contradiction⟩
  refine z_icmpne (tgt := 26) o dX8_headsOf_19 (by decide) (fun c4 => ?_) (fun c4 => ?_)
  · refine z_iload (j := 0) o dX8_headsOf_26 rfl ?_
    rw [if_neg c4] at J5
    exact J5
  · refine z_iconst (v := (-1)) o dX8_headsOf_22 (by decide) ?_
    refine z_goto (tgt := 28) o dX8_headsOf_23 (by decide) ?_
    rw [if_pos c4] at J5
    exact J5

