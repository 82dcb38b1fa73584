/-! the reference: what it answers to a call (2) -/
def sq_count (M : zM) (w : Int32) : Int32 × zM :=
  if w = 0 then (M 83 2, M) else if w = 1 then (M 83 3, M) else if w = 2 then (M 83 0, M) else if w = 3 then (sp_cnt (M 83) 70 64, M) else if w = 4 then (sp_cnt (M 83) 134 64, M)
  else if w = 5 then (M 83 4, M) else if w = 6 then (M 83 5, M) else if w = 7 then (M 82 18, M) else if w = 8 then (M 83 1, M) else (zE 1, zEr M 1)
set_option maxHeartbeats 4000000 in
set_option maxRecDepth 100000 in
theorem c_X8_count {B : zB} (hB : znn B = 95) (M : zM) (N : zN) (w : Int32) : zCi B (zg B M N) yX8_count cX8_count 2 (some .int) 5 [zref B 82, .int w] (fun r g' => g' = zg B (sq_count M w).2 N ∧ r = (sq_count M w).1) := by
  refine zCi_of (by decide +kernel) (Nat.le_of_ble_eq_true rfl) .int rfl (fun _ _ _ => rfl) ?_
  intro X o kret
  show zW X B (zg B M N) 0 [(0, zref B 82), (1, .int w)] []
  refine z_iload_n (j := 1) o dX8_count_0 rfl ?_
  refine z_tcase 0 (tgt := 52) o dX8_count_1 (by decide) (by decide) rfl (by decide) (fun c1 => ?_) (fun c1 => ?_)
  · refine z_aload_n (j := 0) o dX8_count_52 rfl ?_
    refine zo_get (i := 82) o hB dX8_count_53 zf_X8_9 rfl (by decide) rfl ?_
    refine z_iconst (v := 2) o dX8_count_56 (by decide) ?_
    refine zo_iald (i := 83) (j := 2) o hB dX8_count_57 rfl (show 2 < 524 by omega) (by decide) ?_
    exact kret _ _ _ _ dX8_count_58 ⟨by unfold sq_count;  rw [if_pos c1] <;> (try rfl), by unfold sq_count;  rw [if_pos c1] <;> (try rw [upv_ne (by omega)]) <;> (try rfl)⟩
  refine z_tcase 1 (tgt := 59) o dX8_count_1 (by decide) (by decide) rfl (by decide) (fun c2 => ?_) (fun c2 => ?_)
  · refine z_aload_n (j := 0) o dX8_count_59 rfl ?_
    refine zo_get (i := 82) o hB dX8_count_60 zf_X8_9 rfl (by decide) rfl ?_
    refine z_iconst (v := 3) o dX8_count_63 (by decide) ?_
    refine zo_iald (i := 83) (j := 3) o hB dX8_count_64 rfl (show 3 < 524 by omega) (by decide) ?_
    exact kret _ _ _ _ dX8_count_65 ⟨by unfold sq_count;  rw [if_neg c1, if_pos c2] <;> (try rfl), by unfold sq_count;  rw [if_neg c1, if_pos c2] <;> (try rw [upv_ne (by omega)]) <;> (try rfl)⟩
  refine z_tcase 2 (tgt := 66) o dX8_count_1 (by decide) (by decide) rfl (by decide) (fun c3 => ?_) (fun c3 => ?_)
  · refine z_aload_n (j := 0) o dX8_count_66 rfl ?_
    refine zo_get (i := 82) o hB dX8_count_67 zf_X8_9 rfl (by decide) rfl ?_
    refine z_iconst (v := 0) o dX8_count_70 (by decide) ?_
    refine zo_iald (i := 83) (j := 0) o hB dX8_count_71 rfl (show 0 < 524 by omega) (by decide) ?_
    exact kret _ _ _ _ dX8_count_72 ⟨by unfold sq_count;  rw [if_neg c1, if_neg c2, if_pos c3] <;> (try rfl), by unfold sq_count;  rw [if_neg c1, if_neg c2, if_pos c3] <;> (try rw [upv_ne (by omega)]) <;> (try rfl)⟩
  refine z_tcase 3 (tgt := 73) o dX8_count_1 (by decide) (by decide) rfl (by decide) (fun c4 => ?_) (fun c4 => ?_)
  · refine z_aload_n (j := 0) o dX8_count_73 rfl ?_
    refine z_bipush (v := 70) o dX8_count_74 (by decide) ?_
    refine z_callVi (As := [.int 70]) (n := 1) (st := []) o dX8_count_76 (c_X8_countOf hB M N 70 (by omega)) zc_X8_209 (by decide) (i := 82) (by rw [hB]; exact zsh_lt rfl (by decide)) (zg_o rfl (by decide)) rfl rfl rfl (Nat.le_of_ble_eq_true rfl) (fun r5 g6 p7 => ?_)
    obtain ⟨rfl, rfl⟩ := p7
    exact kret _ _ _ _ dX8_count_79 ⟨by unfold sq_count;  rw [if_neg c1, if_neg c2, if_neg c3, if_pos c4] <;> (try rfl), by unfold sq_count;  rw [if_neg c1, if_neg c2, if_neg c3, if_pos c4] <;> (try rw [upv_ne (by omega)]) <;> (try rfl)⟩
  refine z_tcase 4 (tgt := 80) o dX8_count_1 (by decide) (by decide) rfl (by decide) (fun c8 => ?_) (fun c8 => ?_)
  · refine z_aload_n (j := 0) o dX8_count_80 rfl ?_
    refine z_sipush (v := 134) o dX8_count_81 (by decide) ?_
    refine z_callVi (As := [.int 134]) (n := 1) (st := []) o dX8_count_84 (c_X8_countOf hB M N 134 (by omega)) zc_X8_209 (by decide) (i := 82) (by rw [hB]; exact zsh_lt rfl (by decide)) (zg_o rfl (by decide)) rfl rfl rfl (Nat.le_of_ble_eq_true rfl) (fun r9 g10 p11 => ?_)
    obtain ⟨rfl, rfl⟩ := p11
    exact kret _ _ _ _ dX8_count_87 ⟨by unfold sq_count;  rw [if_neg c1, if_neg c2, if_neg c3, if_neg c4, if_pos c8] <;> (try rfl), by unfold sq_count;  rw [if_neg c1, if_neg c2, if_neg c3, if_neg c4, if_pos c8] <;> (try rw [upv_ne (by omega)]) <;> (try rfl)⟩
  refine z_tcase 5 (tgt := 88) o dX8_count_1 (by decide) (by decide) rfl (by decide) (fun c12 => ?_) (fun c12 => ?_)
  · refine z_aload_n (j := 0) o dX8_count_88 rfl ?_
    refine zo_get (i := 82) o hB dX8_count_89 zf_X8_9 rfl (by decide) rfl ?_
    refine z_iconst (v := 4) o dX8_count_92 (by decide) ?_
    refine zo_iald (i := 83) (j := 4) o hB dX8_count_93 rfl (show 4 < 524 by omega) (by decide) ?_
    exact kret _ _ _ _ dX8_count_94 ⟨by unfold sq_count;  rw [if_neg c1, if_neg c2, if_neg c3, if_neg c4, if_neg c8, if_pos c12] <;> (try rfl), by unfold sq_count;  rw [if_neg c1, if_neg c2, if_neg c3, if_neg c4, if_neg c8, if_pos c12] <;> (try rw [upv_ne (by omega)]) <;> (try rfl)⟩
  refine z_tcase 6 (tgt := 95) o dX8_count_1 (by decide) (by decide) rfl (by decide) (fun c13 => ?_) (fun c13 => ?_)
  · refine z_aload_n (j := 0) o dX8_count_95 rfl ?_
    refine zo_get (i := 82) o hB dX8_count_96 zf_X8_9 rfl (by decide) rfl ?_
    refine z_iconst (v := 5) o dX8_count_99 (by decide) ?_
    refine zo_iald (i := 83) (j := 5) o hB dX8_count_100 rfl (show 5 < 524 by omega) (by decide) ?_
    exact kret _ _ _ _ dX8_count_101 ⟨by unfold sq_count;  rw [if_neg c1, if_neg c2, if_neg c3, if_neg c4, if_neg c8, if_neg c12, if_pos c13] <;> (try rfl), by unfold sq_count;  rw [if_neg c1, if_neg c2, if_neg c3, if_neg c4, if_neg c8, if_neg c12, if_pos c13] <;> (try rw [upv_ne (by omega)]) <;> (try rfl)⟩
  refine z_tcase 7 (tgt := 102) o dX8_count_1 (by decide) (by decide) rfl (by decide) (fun c14 => ?_) (fun c14 => ?_)
  · refine z_aload_n (j := 0) o dX8_count_102 rfl ?_
    refine zo_get (i := 82) o hB dX8_count_103 zf_X8_233 rfl (by decide) rfl ?_
    exact kret _ _ _ _ dX8_count_106 ⟨by unfold sq_count;  rw [if_neg c1, if_neg c2, if_neg c3, if_neg c4, if_neg c8, if_neg c12, if_neg c13, if_pos c14] <;> (try rfl), by unfold sq_count;  rw [if_neg c1, if_neg c2, if_neg c3, if_neg c4, if_neg c8, if_neg c12, if_neg c13, if_pos c14] <;> (try rw [upv_ne (by omega)]) <;> (try rfl)⟩
  refine z_tcase 8 (tgt := 107) o dX8_count_1 (by decide) (by decide) rfl (by decide) (fun c15 => ?_) (fun c15 => ?_)
  · refine z_aload_n (j := 0) o dX8_count_107 rfl ?_
    refine zo_get (i := 82) o hB dX8_count_108 zf_X8_9 rfl (by decide) rfl ?_
    refine z_iconst (v := 1) o dX8_count_111 (by decide) ?_
    refine zo_iald (i := 83) (j := 1) o hB dX8_count_112 rfl (show 1 < 524 by omega) (by decide) ?_
    exact kret _ _ _ _ dX8_count_113 ⟨by unfold sq_count;  rw [if_neg c1, if_neg c2, if_neg c3, if_neg c4, if_neg c8, if_neg c12, if_neg c13, if_neg c14, if_pos c15] <;> (try rfl), by unfold sq_count;  rw [if_neg c1, if_neg c2, if_neg c3, if_neg c4, if_neg c8, if_neg c12, if_neg c13, if_neg c14, if_pos c15] <;> (try rw [upv_ne (by omega)]) <;> (try rfl)⟩
  refine z_tdef (tgt := 114) o dX8_count_1 (by have := lv_neT (a := 0) c1 rfl; have := lv_neT (a := 1) c2 rfl; have := lv_neT (a := 2) c3 rfl; have := lv_neT (a := 3) c4 rfl; have := lv_neT (a := 4) c8 rfl; have := lv_neT (a := 5) c12 rfl; have := lv_neT (a := 6) c13 rfl; have := lv_neT (a := 7) c14 rfl; have := lv_neT (a := 8) c15 rfl; omega) (by decide) ?_
  refine z_aload_n (j := 0) o dX8_count_114 rfl ?_
  refine z_ldc (v := (-1000000001)) o dX8_count_115 zk_X8_100 ?_
  refine z_callVi (As := [.int (-1000000001)]) (n := 1) (st := []) o dX8_count_117 (c_X8_error hB M N 1 (by omega)) zc_X8_101 (by decide) (i := 82) (by rw [hB]; exact zsh_lt rfl (by decide)) (zg_o rfl (by decide)) rfl rfl rfl (Nat.le_of_ble_eq_true rfl) (fun r16 g17 p18 => ?_)
  obtain ⟨rfl, rfl⟩ := p18
  exact kret _ _ _ _ dX8_count_120 ⟨by unfold sq_count;  rw [if_neg c1, if_neg c2, if_neg c3, if_neg c4, if_neg c8, if_neg c12, if_neg c13, if_neg c14, if_neg c15] <;> (try rfl), by unfold sq_count;  rw [if_neg c1, if_neg c2, if_neg c3, if_neg c4, if_neg c8, if_neg c12, if_neg c13, if_neg c14, if_neg c15] <;> (try rw [upv_ne (by omega)]) <;> (try rfl)⟩

def sq_told (M : zM) (k : Int32) : Int32 × zM :=
  if zin k 1 6 = 0 then (zE 1, zEr M 1) else (M 86 (zn k), M)
set_option maxHeartbeats 4000000 in
set_option maxRecDepth 100000 in
theorem c_X8_told {B : zB} (hB : znn B = 95) (M : zM) (N : zN) (k : Int32) : zCi B (zg B M N) yX8_told cX8_told 2 (some .int) 5 [zref B 82, .int k] (fun r g' => g' = zg B (sq_told M k).2 N ∧ r = (sq_told M k).1) := by
  refine zCi_of (by decide +kernel) (Nat.le_of_ble_eq_true rfl) .int rfl (fun _ _ _ => rfl) ?_
  intro X o kret
  show zW X B (zg B M N) 0 [(0, zref B 82), (1, .int k)] []
  refine z_iload_n (j := 1) o dX8_told_0 rfl ?_
  refine z_iconst (v := 1) o dX8_told_1 (by decide) ?_
  refine z_bipush (v := 6) o dX8_told_2 (by decide) ?_
  refine z_callSi (As := [.int k, .int 1, .int 6]) (n := 3) (st := []) o dX8_told_4 (c_X8_in hB M N k 1 6) zc_X8_51 (by decide) rfl rfl (Nat.le_of_ble_eq_true rfl) (fun r1 g2 p3 => ?_)
  obtain ⟨rfl, rfl⟩ := p3
  refine z_ifeq (tgt := 19) o dX8_told_7 (by decide) (fun c4 => ?_) (fun c4 => ?_)
  · refine z_aload_n (j := 0) o dX8_told_19 rfl ?_
    refine z_ldc (v := (-1000000001)) o dX8_told_20 zk_X8_100 ?_
    refine z_callVi (As := [.int (-1000000001)]) (n := 1) (st := []) o dX8_told_22 (c_X8_error hB M N 1 (by omega)) zc_X8_101 (by decide) (i := 82) (by rw [hB]; exact zsh_lt rfl (by decide)) (zg_o rfl (by decide)) rfl rfl rfl (Nat.le_of_ble_eq_true rfl) (fun r5 g6 p7 => ?_)
    obtain ⟨rfl, rfl⟩ := p7
    exact kret _ _ _ _ dX8_told_25 ⟨by unfold sq_told;  rw [if_pos c4] <;> (try rfl), by unfold sq_told;  rw [if_pos c4] <;> (try rw [upv_ne (by omega)]) <;> (try rfl)⟩
  · obtain ⟨kq, lkq, hkq, ekq⟩ := zin_rng (lo := 1) (n := 6) rfl rfl (by decide) c4
    subst ekq
    refine z_aload_n (j := 0) o dX8_told_10 rfl ?_
    refine zo_get (i := 82) o hB dX8_told_11 zf_X8_19 rfl (by decide) rfl ?_
    refine z_iload_n (j := 1) o dX8_told_14 rfl ?_
    refine zo_iald (i := 86) (j := kq) o hB dX8_told_15 rfl (show kq < 7 by omega) (by decide) ?_
    refine z_goto (tgt := 25) o dX8_told_16 (by decide) ?_
    exact kret _ _ _ _ dX8_told_25 ⟨by unfold sq_told; (try rw [zn_nI (n := kq) (by omega)]); rw [if_neg c4] <;> (try rfl), by unfold sq_told; (try rw [zn_nI (n := kq) (by omega)]); rw [if_neg c4] <;> (try rw [upv_ne (by omega)]) <;> (try rfl)⟩

def sq_tell (M : zM) (v : Int32) : Int32 × zM :=
  if nI (sp_nw (M 83)) = 24 then (zE 4, zEr M 4) else (nI (sp_nw (M 83) + 1), va_up M 83 (upd (upd (M 83) (258 + sp_nw (M 83)) v) 5 (nI (sp_nw (M 83) + 1))))
set_option maxHeartbeats 4000000 in
set_option maxRecDepth 100000 in
theorem c_X8_tell {B : zB} (hB : znn B = 95) (M : zM) (N : zN) (v : Int32) (hok : zOkAll (M 83)) : zCi B (zg B M N) yX8_tell cX8_tell 2 (some .int) 5 [zref B 82, .int v] (fun r g' => g' = zg B (sq_tell M v).2 N ∧ r = (sq_tell M v).1) := by
  refine zCi_of (by decide +kernel) (Nat.le_of_ble_eq_true rfl) .int rfl (fun _ _ _ => rfl) ?_
  intro X o kret
  show zW X B (zg B M N) 0 [(0, zref B 82), (1, .int v)] []
  obtain ⟨hnf, hnf4⟩ := ok_nf2 hok.1
  obtain ⟨hnc, hnc6⟩ := ok_nc2 hok.1
  obtain ⟨hnw, hnw24⟩ := ok_nw2 hok.1
  obtain ⟨hnt, hnt60⟩ := ok_nt2 hok.1
  refine z_aload_n (j := 0) o dX8_tell_0 rfl ?_
  refine zo_get (i := 82) o hB dX8_tell_1 zf_X8_9 rfl (by decide) rfl ?_
  refine z_iconst (v := 5) o dX8_tell_4 (by decide) ?_
  refine zo_iald (i := 83) (j := 5) o hB dX8_tell_5 rfl (show 5 < 524 by omega) (by decide) ?_
  refine zo_rw (y := nI (sp_nw (M 83))) (hnw) ?_
  refine z_bipush (v := 24) o dX8_tell_6 (by decide) ?_
  refine z_icmpne (tgt := 18) o dX8_tell_8 (by decide) (fun c1 => ?_) (fun c1 => ?_)
  · have hlt24 : sp_nw (M 83) < 24 := by
      rcases Nat.lt_or_ge (sp_nw (M 83)) 24 with q | q
      · exact q
      · exact absurd (by rw [show sp_nw (M 83) = 24 by omega]; rfl) c1
    refine z_aload_n (j := 0) o dX8_tell_18 rfl ?_
    refine zo_get (i := 82) o hB dX8_tell_19 zf_X8_9 rfl (by decide) rfl ?_
    refine z_sipush (v := 258) o dX8_tell_22 (by decide) ?_
    refine z_aload_n (j := 0) o dX8_tell_25 rfl ?_
    refine zo_get (i := 82) o hB dX8_tell_26 zf_X8_9 rfl (by decide) rfl ?_
    refine z_iconst (v := 5) o dX8_tell_29 (by decide) ?_
    refine zo_iald (i := 83) (j := 5) o hB dX8_tell_30 rfl (show 5 < 524 by omega) (by decide) ?_
    refine zo_rw (y := nI (sp_nw (M 83))) (hnw) ?_
    refine z_iadd o dX8_tell_31 ?_
    refine zo_rw (y := nI (258 + (sp_nw (M 83)))) (zn_add (rfl) (rfl)) ?_
    refine z_iload_n (j := 1) o dX8_tell_32 rfl ?_
    refine zo_iast (i := 83) (j := 258 + (sp_nw (M 83))) o hB dX8_tell_33 rfl (show 258 + (sp_nw (M 83)) < 524 by omega) (by decide) ?_
    rw [show zu M 83 (258 + (sp_nw (M 83))) v = va_up M 83 (upd (M 83) (258 + (sp_nw (M 83))) v) from rfl]
    refine z_aload_n (j := 0) o dX8_tell_34 rfl ?_
    refine zo_get (i := 82) o hB dX8_tell_35 zf_X8_9 rfl (by decide) rfl ?_
    refine z_iconst (v := 5) o dX8_tell_38 (by decide) ?_
    refine z_dup2 o dX8_tell_39 rfl rfl ?_
    refine zo_iald (i := 83) (j := 5) o hB dX8_tell_40 rfl (show 5 < 524 by omega) (by decide) ?_
    refine zo_rw (y := M 83 5) (by rw [upv_ne (by omega)]) ?_
    refine zo_rw (y := nI (sp_nw (M 83))) (hnw) ?_
    refine z_iconst (v := 1) o dX8_tell_41 (by decide) ?_
    refine z_iadd o dX8_tell_42 ?_
    refine zo_rw (y := nI (sp_nw (M 83) + 1)) (zn_add (rfl) (rfl)) ?_
    refine zo_iast (i := 83) (j := 5) o hB dX8_tell_43 rfl (show 5 < 524 by omega) (by decide) ?_
    rw [zu_va]
    refine z_aload_n (j := 0) o dX8_tell_44 rfl ?_
    refine zo_get (i := 82) o hB dX8_tell_45 zf_X8_9 rfl (by decide) rfl ?_
    refine z_iconst (v := 5) o dX8_tell_48 (by decide) ?_
    refine zo_iald (i := 83) (j := 5) o hB dX8_tell_49 rfl (show 5 < 524 by omega) (by decide) ?_
    exact kret _ _ _ _ dX8_tell_50 ⟨by unfold sq_tell;  rw [if_neg c1] <;> (try rfl), by unfold sq_tell;  rw [if_neg c1] <;> (try rw [upv_ne (by omega)]) <;> (try rfl)⟩
  · refine z_aload_n (j := 0) o dX8_tell_11 rfl ?_
    refine z_ldc (v := (-1000000004)) o dX8_tell_12 zk_X8_105 ?_
    refine z_callVi (As := [.int (-1000000004)]) (n := 1) (st := []) o dX8_tell_14 (c_X8_error hB M N 4 (by omega)) zc_X8_101 (by decide) (i := 82) (by rw [hB]; exact zsh_lt rfl (by decide)) (zg_o rfl (by decide)) rfl rfl rfl (Nat.le_of_ble_eq_true rfl) (fun r2 g3 p4 => ?_)
    obtain ⟨rfl, rfl⟩ := p4
    exact kret _ _ _ _ dX8_tell_17 ⟨by unfold sq_tell;  rw [if_pos c1] <;> (try rfl), by unfold sq_tell;  rw [if_pos c1] <;> (try rw [upv_ne (by omega)]) <;> (try rfl)⟩

def sq_image (M : zM)  : Int32 × zM :=
  (M 82 3 + 1, zu (va_up M 84 (M 83)) 82 3 (M 82 3 + 1))
set_option maxHeartbeats 4000000 in
set_option maxRecDepth 100000 in
theorem c_X8_image {B : zB} (hB : znn B = 95) (M : zM) (N : zN) : zCi B (zg B M N) yX8_image cX8_image 1 (some .int) 5 [zref B 82] (fun r g' => g' = zg B (sq_image M).2 N ∧ r = (sq_image M).1) := by
  refine zCi_of (by decide +kernel) (Nat.le_of_ble_eq_true rfl) .int rfl (fun _ _ _ => rfl) ?_
  intro X o kret
  show zW X B (zg B M N) 0 [(0, zref B 82)] []
  refine z_aload_n (j := 0) o dX8_image_0 rfl ?_
  refine zo_get (i := 82) o hB dX8_image_1 zf_X8_9 rfl (by decide) rfl ?_
  refine z_aload_n (j := 0) o dX8_image_4 rfl ?_
  refine zo_get (i := 82) o hB dX8_image_5 zf_X8_13 rfl (by decide) rfl ?_
  refine z_callSv (As := [zref B 83, zref B 84]) (n := 2) (st := []) o dX8_image_8 (c_X8_copyAll hB M N 83 84 (by decide) rfl rfl rfl rfl) zc_X8_47 (by decide) rfl rfl (Nat.le_of_ble_eq_true rfl) (fun g2 p3 => ?_)
  cases p3
  refine zo_nm (fun M4 hM4 => ?_)
  refine z_aload_n (j := 0) o dX8_image_11 rfl ?_
  refine z_dup o dX8_image_12 rfl ?_
  refine zo_get (i := 82) o hB dX8_image_13 zf_X8_280 rfl (by decide) rfl ?_
  refine z_iconst (v := 1) o dX8_image_16 (by decide) ?_
  refine z_iadd o dX8_image_17 ?_
  refine zo_put (i := 82) o hB dX8_image_18 zp_X8_280 rfl (by decide) (by decide) (Nat.le_of_ble_eq_true rfl) ?_
  refine zo_nm (fun M5 hM5 => ?_)
  refine z_aload_n (j := 0) o dX8_image_21 rfl ?_
  refine zo_get (i := 82) o hB dX8_image_22 zf_X8_280 rfl (by decide) rfl ?_
  exact kret _ _ _ _ dX8_image_25 ⟨by subst_vars; rfl, by subst_vars; rfl⟩

def sq_restore (M : zM)  : Int32 × zM :=
  if M 82 3 = 0 then (zE 2, zEr M 2) else (M 84 0, va_up M 83 (M 84))
set_option maxHeartbeats 4000000 in
set_option maxRecDepth 100000 in
theorem c_X8_restore {B : zB} (hB : znn B = 95) (M : zM) (N : zN) : zCi B (zg B M N) yX8_restore cX8_restore 1 (some .int) 5 [zref B 82] (fun r g' => g' = zg B (sq_restore M).2 N ∧ r = (sq_restore M).1) := by
  refine zCi_of (by decide +kernel) (Nat.le_of_ble_eq_true rfl) .int rfl (fun _ _ _ => rfl) ?_
  intro X o kret
  show zW X B (zg B M N) 0 [(0, zref B 82)] []
  refine z_aload_n (j := 0) o dX8_restore_0 rfl ?_
  refine zo_get (i := 82) o hB dX8_restore_1 zf_X8_280 rfl (by decide) rfl ?_
  refine z_ifne (tgt := 14) o dX8_restore_4 (by decide) (fun c1 => ?_) (fun c1 => ?_)
  · refine z_aload_n (j := 0) o dX8_restore_14 rfl ?_
    refine zo_get (i := 82) o hB dX8_restore_15 zf_X8_13 rfl (by decide) rfl ?_
    refine z_aload_n (j := 0) o dX8_restore_18 rfl ?_
    refine zo_get (i := 82) o hB dX8_restore_19 zf_X8_9 rfl (by decide) rfl ?_
    refine z_callSv (As := [zref B 84, zref B 83]) (n := 2) (st := []) o dX8_restore_22 (c_X8_copyAll hB M N 84 83 (by decide) rfl rfl rfl rfl) zc_X8_47 (by decide) rfl rfl (Nat.le_of_ble_eq_true rfl) (fun g3 p4 => ?_)
    cases p4
    refine z_aload_n (j := 0) o dX8_restore_25 rfl ?_
    refine zo_get (i := 82) o hB dX8_restore_26 zf_X8_9 rfl (by decide) rfl ?_
    refine z_iconst (v := 0) o dX8_restore_29 (by decide) ?_
    refine zo_iald (i := 83) (j := 0) o hB dX8_restore_30 rfl (show 0 < 524 by omega) (by decide) ?_
    exact kret _ _ _ _ dX8_restore_31 ⟨by unfold sq_restore;  rw [if_neg c1] <;> (try rfl), by unfold sq_restore;  rw [if_neg c1] <;> (try rw [upv_ne (by omega)]) <;> (try rfl)⟩
  · refine z_aload_n (j := 0) o dX8_restore_7 rfl ?_
    refine z_ldc (v := (-1000000002)) o dX8_restore_8 zk_X8_218 ?_
    refine z_callVi (As := [.int (-1000000002)]) (n := 1) (st := []) o dX8_restore_10 (c_X8_error hB M N 2 (by omega)) zc_X8_101 (by decide) (i := 82) (by rw [hB]; exact zsh_lt rfl (by decide)) (zg_o rfl (by decide)) rfl rfl rfl (Nat.le_of_ble_eq_true rfl) (fun r5 g6 p7 => ?_)
    obtain ⟨rfl, rfl⟩ := p7
    exact kret _ _ _ _ dX8_restore_13 ⟨by unfold sq_restore;  rw [if_pos c1] <;> (try rfl), by unfold sq_restore;  rw [if_pos c1] <;> (try rw [upv_ne (by omega)]) <;> (try rfl)⟩

def sq_body (M : zM) (i : Int32) : Int32 × zM :=
  if zin i 0 (M 82 18 - 1) = 0 then (zE 2, zEr M 2) else (M 94 (zn i), M)
set_option maxHeartbeats 4000000 in
set_option maxRecDepth 100000 in
theorem c_X8_body {B : zB} (hB : znn B = 95) (M : zM) (N : zN) (i : Int32) (htr : zTrOk M) : zCi B (zg B M N) yX8_body cX8_body 2 (some .int) 5 [zref B 82, .int i] (fun r g' => g' = zg B (sq_body M i).2 N ∧ r = (sq_body M i).1) := by
  refine zCi_of (by decide +kernel) (Nat.le_of_ble_eq_true rfl) .int rfl (fun _ _ _ => rfl) ?_
  intro X o kret
  show zW X B (zg B M N) 0 [(0, zref B 82), (1, .int i)] []
  obtain ⟨hTR, htr30⟩ := tr_n2 htr
  refine z_iload_n (j := 1) o dX8_body_0 rfl ?_
  refine z_iconst (v := 0) o dX8_body_1 (by decide) ?_
  refine z_aload_n (j := 0) o dX8_body_2 rfl ?_
  refine zo_get (i := 82) o hB dX8_body_3 zf_X8_233 rfl (by decide) rfl ?_
  refine z_iconst (v := 1) o dX8_body_6 (by decide) ?_
  refine z_isub o dX8_body_7 ?_
  refine z_callSi (As := [.int i, .int 0, .int ((M 82 18) - 1)]) (n := 3) (st := []) o dX8_body_8 (c_X8_in hB M N i 0 ((M 82 18) - 1)) zc_X8_51 (by decide) rfl rfl (Nat.le_of_ble_eq_true rfl) (fun r1 g2 p3 => ?_)
  obtain ⟨rfl, rfl⟩ := p3
  refine z_ifeq (tgt := 23) o dX8_body_11 (by decide) (fun c4 => ?_) (fun c4 => ?_)
  · refine z_aload_n (j := 0) o dX8_body_23 rfl ?_
    refine z_ldc (v := (-1000000002)) o dX8_body_24 zk_X8_218 ?_
    refine z_callVi (As := [.int (-1000000002)]) (n := 1) (st := []) o dX8_body_26 (c_X8_error hB M N 2 (by omega)) zc_X8_101 (by decide) (i := 82) (by rw [hB]; exact zsh_lt rfl (by decide)) (zg_o rfl (by decide)) rfl rfl rfl (Nat.le_of_ble_eq_true rfl) (fun r5 g6 p7 => ?_)
    obtain ⟨rfl, rfl⟩ := p7
    exact kret _ _ _ _ dX8_body_29 ⟨by unfold sq_body;  rw [if_pos c4] <;> (try rfl), by unfold sq_body;  rw [if_pos c4] <;> (try rw [upv_ne (by omega)]) <;> (try rfl)⟩
  · have hz11 := c4
    rw [hTR] at hz11
    obtain ⟨ia, hia, eia⟩ := zin_nat (by omega) hz11
    subst eia
    refine z_aload_n (j := 0) o dX8_body_14 rfl ?_
    refine zo_get (i := 82) o hB dX8_body_15 zf_X8_43 rfl (by decide) rfl ?_
    refine z_iload_n (j := 1) o dX8_body_18 rfl ?_
    refine zo_iald (i := 94) (j := ia) o hB dX8_body_19 rfl (show ia < 30 by omega) (by decide) ?_
    refine z_goto (tgt := 29) o dX8_body_20 (by decide) ?_
    exact kret _ _ _ _ dX8_body_29 ⟨by unfold sq_body; (try rw [zn_nI (n := ia) (by omega)]); rw [if_neg c4] <;> (try rfl), by unfold sq_body; (try rw [zn_nI (n := ia) (by omega)]); rw [if_neg c4] <;> (try rw [upv_ne (by omega)]) <;> (try rfl)⟩

def sq_check (M : zM)  : Int32 × zM :=
  (sp_chk (M 83) (sp_nw (M 83)) 0, va_up M 83 (upd (M 83) 5 0))
set_option maxHeartbeats 4000000 in
set_option maxRecDepth 100000 in
theorem c_X8_check {B : zB} (hB : znn B = 95) (M : zM) (N : zN) (hok : zOkAll (M 83)) : zCi B (zg B M N) yX8_check cX8_check 3 (some .int) 5 [zref B 82] (fun r g' => g' = zg B (sq_check M).2 N ∧ r = (sq_check M).1) := by
  refine zCi_of (by decide +kernel) (Nat.le_of_ble_eq_true rfl) .int rfl (fun _ _ _ => rfl) ?_
  intro X o kret
  show zW X B (zg B M N) 0 [(0, zref B 82)] []
  obtain ⟨hnf, hnf4⟩ := ok_nf2 hok.1
  obtain ⟨hnc, hnc6⟩ := ok_nc2 hok.1
  obtain ⟨hnw, hnw24⟩ := ok_nw2 hok.1
  obtain ⟨hnt, hnt60⟩ := ok_nt2 hok.1
  refine z_aload_n (j := 0) o dX8_check_0 rfl ?_
  refine zo_get (i := 82) o hB dX8_check_1 zf_X8_9 rfl (by decide) rfl ?_
  refine z_iconst (v := 5) o dX8_check_4 (by decide) ?_
  refine zo_iald (i := 83) (j := 5) o hB dX8_check_5 rfl (show 5 < 524 by omega) (by decide) ?_
  refine zo_rw (y := nI (sp_nw (M 83))) (hnw) ?_
  refine z_istore_n (i := 1) (lv2 := [(1, .int (nI (sp_nw (M 83)))), (0, zref B 82)]) o dX8_check_6 rfl (by decide) rfl ?_
  refine z_aload_n (j := 1) o dX8_check_7 rfl ?_
  refine zo_get (i := 82) o hB dX8_check_8 zf_X8_9 rfl (by decide) rfl ?_
  refine z_iconst (v := 5) o dX8_check_11 (by decide) ?_
  refine z_iconst (v := 0) o dX8_check_12 (by decide) ?_
  refine zo_iast (i := 83) (j := 5) o hB dX8_check_13 rfl (show 5 < 524 by omega) (by decide) ?_
  rw [show zu M 83 5 0 = va_up M 83 (upd (M 83) 5 0) from rfl]
  refine z_iconst (v := 0) o dX8_check_14 (by decide) ?_
  refine z_istore_n (i := 2) (lv2 := [(2, .int 0), (1, .int (nI (sp_nw (M 83)))), (0, zref B 82)]) o dX8_check_15 rfl (by decide) rfl ?_
  have LOOP : ∀ nq kq : Nat, kq + nq = sp_nw (M 83) → sp_chk (M 83) (sp_nw (M 83)) 0 = sp_chk (M 83) nq kq → zW X B (zg B (va_up M 83 (upd (M 83) 5 0)) N) 16 [(2, .int (nI kq)), (1, .int (nI (sp_nw (M 83)))), (0, zref B 82)] [] := by
    intro nq
    induction nq with
    | zero =>
      intro kq hkq hs
      have hz : kq = sp_nw (M 83) := by omega
      refine z_iload_n (j := 0) o dX8_check_16 rfl ?_
      refine z_iload_n (j := 1) o dX8_check_17 rfl ?_
      refine z_icmpge (tgt := 58) o dX8_check_18 (by decide) (fun c1 => ?_) (fun c1 => ?_)
      · refine z_iconst (v := 0) o dX8_check_58 (by decide) ?_
        exact kret _ _ _ _ dX8_check_59 ⟨rfl, by unfold sq_check; rw [hs]; rfl⟩
      · exact absurd c1 (nI_nlt (a := kq) (b := sp_nw (M 83)) (by omega) (by omega))
    | succ nq ih =>
      intro kq hkq hs
      have hlt : kq < sp_nw (M 83) := by omega
      refine z_iload_n (j := 0) o dX8_check_16 rfl ?_
      refine z_iload_n (j := 1) o dX8_check_17 rfl ?_
      refine z_icmpge (tgt := 58) o dX8_check_18 (by decide) (fun c2 => ?_) (fun c2 => ?_)
      · exact absurd (nI_lt (a := kq) (b := sp_nw (M 83)) (by omega) (by omega)) c2
      · refine z_aload_n (j := 2) o dX8_check_21 rfl ?_
        refine z_iload_n (j := 0) o dX8_check_22 rfl ?_
        refine z_callVi (As := [.int (nI kq)]) (n := 1) (st := []) o dX8_check_23 (c_X8_isFence hB (va_up M 83 (upd (M 83) 5 0)) N (nI kq)) zc_X8_106 (by decide) (i := 82) (by rw [hB]; exact zsh_lt rfl (by decide)) (zg_o rfl (by decide)) rfl rfl rfl (Nat.le_of_ble_eq_true rfl) (fun r3 g4 p5 => ?_)
        obtain ⟨rfl, rfl⟩ := p5
        refine z_ifeq (tgt := 48) o dX8_check_26 (by decide) (fun c6 => ?_) (fun c6 => ?_)
        · have h26 := c6
          rw [show (va_up M 83 (upd (M 83) 5 0)) 83 2 = M 83 2 from upv_ne (by decide)] at h26
          refine z_iconst (v := 1) o dX8_check_48 (by decide) ?_
          refine z_iload_n (j := 0) o dX8_check_49 rfl ?_
          refine z_iadd o dX8_check_50 ?_
          refine zo_rw (y := nI (1 + kq)) (zn_add (rfl) (rfl)) ?_
          exact kret _ _ _ _ dX8_check_51 ⟨rfl, by unfold sq_check; rw [hs]; show nI (1 + kq) = (if zin (nI kq) 0 (M 83 2 - 1) = 0 then _ else _); rw [if_pos h26]⟩
        · have h26 := c6
          rw [show (va_up M 83 (upd (M 83) 5 0)) 83 2 = M 83 2 from upv_ne (by decide)] at h26
          have hz5 := h26
          rw [hnf] at hz5
          obtain ⟨kk, hkk, ek⟩ := zin_nat (by omega) hz5
          have hk4 : kq < 4 := by have := (nI_eq (a := kq) (b := kk) (by omega) (by omega)).mp ek; omega
          refine z_aload_n (j := 2) o dX8_check_29 rfl ?_
          refine zo_get (i := 82) o hB dX8_check_30 zf_X8_9 rfl (by decide) rfl ?_
          refine z_sipush (v := 258) o dX8_check_33 (by decide) ?_
          refine z_iload_n (j := 0) o dX8_check_36 rfl ?_
          refine z_iadd o dX8_check_37 ?_
          refine zo_rw (y := nI (258 + kq)) (zn_add (rfl) (rfl)) ?_
          refine zo_iald (i := 83) (j := 258 + kq) o hB dX8_check_38 rfl (show 258 + kq < 524 by omega) (by decide) ?_
          refine zo_rw (y := M 83 (258 + kq)) (by rw [upv_ne (by omega)]) ?_
          refine z_aload_n (j := 2) o dX8_check_39 rfl ?_
          refine z_iload_n (j := 0) o dX8_check_40 rfl ?_
          refine z_iconst (v := 4) o dX8_check_41 (by decide) ?_
          refine z_callVi (As := [.int (nI kq), .int 4]) (n := 2) (st := [.int (M 83 (258 + kq))]) o dX8_check_42 (c_X8_of hB (va_up M 83 (upd (M 83) 5 0)) N kq 4 (by omega)) zc_X8_55 (by decide) (i := 82) (by rw [hB]; exact zsh_lt rfl (by decide)) (zg_o rfl (by decide)) rfl rfl rfl (Nat.le_of_ble_eq_true rfl) (fun r7 g8 p9 => ?_)
          obtain ⟨rfl, rfl⟩ := p9
          refine zo_rw (y := M 83 (6 + 13 * kq + 4)) (by rw [upv_ne (by omega)]) ?_
          refine z_icmpeq (tgt := 52) o dX8_check_45 (by decide) (fun c10 => ?_) (fun c10 => ?_)
          · have hs2 : sp_chk (M 83) (sp_nw (M 83)) 0 = sp_chk (M 83) nq (kq + 1) := by
              rw [hs]; show (if zin (nI kq) 0 (M 83 2 - 1) = 0 then _ else _) = _; rw [if_neg h26, if_pos c10]
            refine z_iinc (j := 0) (v := nI (kq + 1)) (lv2 := [(2, .int (nI (kq + 1))), (1, .int (nI (sp_nw (M 83)))), (0, zref B 82)]) o dX8_check_52 rfl (zn_ofInt _) (by decide) rfl ?_
            refine z_goto (tgt := 16) o dX8_check_55 (by decide) ?_
            refine zo_lv [0, 1, 2] rfl ?_
            exact ih (kq + 1) (by omega) hs2
          · refine z_iconst (v := 1) o dX8_check_48 (by decide) ?_
            refine z_iload_n (j := 0) o dX8_check_49 rfl ?_
            refine z_iadd o dX8_check_50 ?_
            refine zo_rw (y := nI (1 + kq)) (zn_add (rfl) (rfl)) ?_
            exact kret _ _ _ _ dX8_check_51 ⟨rfl, by unfold sq_check; rw [hs]; show nI (1 + kq) = (if zin (nI kq) 0 (M 83 2 - 1) = 0 then _ else _); rw [if_neg h26, if_neg c10]⟩
  refine zo_lv [0, 1, 2] rfl ?_
  exact LOOP (sp_nw (M 83)) 0 (by omega) rfl

def sq_sheet (M : zM) (s : Int32) (b : Int32) (n : Int32) : Int32 × zM :=
  if zin s 0 3 = 0 then (zE 1, zEr M 1) else if b = 0 then (1, va_up (va_up (va_up M 87 (upd (M 87) (zn s) 0)) 88 (upd (M 88) (zn s) 0)) 89 (sp_zero (M 89) (zn s) 24)) else if b = 8 then (if n < 0 then (zE 3, zEr M 3) else if 24 < n then (zE 1, zEr M 1) else (1, va_up (va_up (va_up M 87 (upd (M 87) (zn s) 8)) 88 (upd (M 88) (zn s) n)) 89 (sp_zero (M 89) (zn s) 24))) else if b = 16 then (if n < 0 then (zE 3, zEr M 3) else if 24 < n then (zE 1, zEr M 1) else (1, va_up (va_up (va_up M 87 (upd (M 87) (zn s) 16)) 88 (upd (M 88) (zn s) n)) 89 (sp_zero (M 89) (zn s) 24))) else if b = 32 then (if n < 0 then (zE 3, zEr M 3) else if 24 < n then (zE 1, zEr M 1) else (1, va_up (va_up (va_up M 87 (upd (M 87) (zn s) 32)) 88 (upd (M 88) (zn s) n)) 89 (sp_zero (M 89) (zn s) 24))) else (zE 1, zEr M 1)
set_option maxHeartbeats 4000000 in
set_option maxRecDepth 100000 in
theorem c_X8_sheet {B : zB} (hB : znn B = 95) (M : zM) (N : zN) (s : Int32) (b : Int32) (n : Int32) : zCi B (zg B M N) yX8_sheet cX8_sheet 5 (some .int) 5 [zref B 82, .int s, .int b, .int n] (fun r g' => g' = zg B (sq_sheet M s b n).2 N ∧ r = (sq_sheet M s b n).1) := by
  refine zCi_of (by decide +kernel) (Nat.le_of_ble_eq_true rfl) .int rfl (fun _ _ _ => rfl) ?_
  intro X o kret
  show zW X B (zg B M N) 0 [(0, zref B 82), (1, .int s), (2, .int b), (3, .int n)] []
  refine z_iload_n (j := 1) o dX8_sheet_0 rfl ?_
  refine z_callSi (As := [.int s]) (n := 1) (st := []) o dX8_sheet_1 (c_X8_isSheet hB M N s) zc_X8_227 (by decide) rfl rfl (Nat.le_of_ble_eq_true rfl) (fun r1 g2 p3 => ?_)
  obtain ⟨rfl, rfl⟩ := p3
  refine z_ifeq (tgt := 29) o dX8_sheet_4 (by decide) (fun c4 => ?_) (fun c4 => ?_)
  · refine z_aload_n (j := 0) o dX8_sheet_29 rfl ?_
    refine z_ldc (v := (-1000000001)) o dX8_sheet_30 zk_X8_100 ?_
    refine z_callVi (As := [.int (-1000000001)]) (n := 1) (st := []) o dX8_sheet_32 (c_X8_error hB M N 1 (by omega)) zc_X8_101 (by decide) (i := 82) (by rw [hB]; exact zsh_lt rfl (by decide)) (zg_o rfl (by decide)) rfl rfl rfl (Nat.le_of_ble_eq_true rfl) (fun r5 g6 p7 => ?_)
    obtain ⟨rfl, rfl⟩ := p7
    exact kret _ _ _ _ dX8_sheet_35 ⟨by unfold sq_sheet; rw [if_pos c4] <;> (try rfl), by unfold sq_sheet; rw [if_pos c4] <;> (try rfl)⟩
  · obtain ⟨sa, hsa, esa⟩ := zin_lit (n := 3) rfl (by decide) c4
    subst esa
    refine z_iload_n (j := 2) o dX8_sheet_7 rfl ?_
    refine z_ifeq (tgt := 36) o dX8_sheet_8 (by decide) (fun c8 => ?_) (fun c8 => ?_)
    · subst c8
      refine z_iload_n (j := 2) o dX8_sheet_36 rfl ?_
      refine z_ifle (tgt := 51) o dX8_sheet_37 (by decide) (fun c9 => ?_) (fun c9 => ?_)
      · refine z_iload_n (j := 2) o dX8_sheet_51 rfl ?_
        refine z_ifle (tgt := 68) o dX8_sheet_52 (by decide) (fun c10 => ?_) (fun c10 => ?_)
        · refine z_aload_n (j := 0) o dX8_sheet_68 rfl ?_
          refine zo_get (i := 82) o hB dX8_sheet_69 zf_X8_22 rfl (by decide) rfl ?_
          refine z_iload_n (j := 1) o dX8_sheet_72 rfl ?_
          refine z_iload_n (j := 2) o dX8_sheet_73 rfl ?_
          refine zo_iast (i := 87) (j := sa) o hB dX8_sheet_74 rfl (show sa < 4 by omega) (by decide) ?_
          rw [show zu M 87 sa 0 = va_up M 87 (upd (M 87) sa 0) from rfl]
          refine z_aload_n (j := 0) o dX8_sheet_75 rfl ?_
          refine zo_get (i := 82) o hB dX8_sheet_76 zf_X8_25 rfl (by decide) rfl ?_
          refine z_iload_n (j := 1) o dX8_sheet_79 rfl ?_
          refine z_iload_n (j := 2) o dX8_sheet_80 rfl ?_
          refine z_ifne (tgt := 88) o dX8_sheet_81 (by decide) (fun c11 => ?_) (fun c11 => ?_)
          · exact absurd c11 (by decide)
          · refine z_iconst (v := 0) o dX8_sheet_84 (by decide) ?_
            refine z_goto (tgt := 89) o dX8_sheet_85 (by decide) ?_
            refine zo_iast (i := 88) (j := sa) o hB dX8_sheet_89 rfl (show sa < 4 by omega) (by decide) ?_
            rw [show zu (va_up M 87 (upd (M 87) sa 0)) 88 sa 0 = va_up (va_up M 87 (upd (M 87) sa 0)) 88 (upd (M 88) sa 0) from rfl]
            refine z_iconst (v := 0) o dX8_sheet_90 (by decide) ?_
            refine z_istore (i := 4) (lv2 := [(4, .int 0), (0, zref B 82), (1, .int (nI sa)), (2, .int 0), (3, .int n)]) o dX8_sheet_91 (by decide) rfl ?_
            have LOOP : ∀ nq kq : Nat, kq + nq = 24 → zW X B (zg B (va_up (va_up (va_up M 87 (upd (M 87) sa 0)) 88 (upd (M 88) sa 0)) 89 (sp_zero (M 89) sa kq)) N) 93 [(4, .int (nI kq)), (0, zref B 82), (1, .int (nI sa))] [] := by
              intro nq
              induction nq with
              | zero =>
                intro kq hkq
                obtain rfl : kq = 24 := by omega
                refine z_iload (j := 0) o dX8_sheet_93 rfl ?_
                refine z_bipush (v := 24) o dX8_sheet_95 (by decide) ?_
                refine z_icmpge (tgt := 119) o dX8_sheet_97 (by decide) (fun c12 => ?_) (fun c12 => ?_)
                · refine z_iconst (v := 1) o dX8_sheet_119 (by decide) ?_
                  exact kret _ _ _ _ dX8_sheet_120 ⟨by unfold sq_sheet; (try rw [zn_nI (n := sa) (by omega)]); rw [if_neg c4]; rw [if_pos rfl] <;> (try rfl), by unfold sq_sheet; (try rw [zn_nI (n := sa) (by omega)]); rw [if_neg c4]; rw [if_pos rfl] <;> (try rfl)⟩
                · exact absurd c12 (nI_nlt (a := 24) (b := 24) (by omega) (by omega))
              | succ nq ih =>
                intro kq hkq
                have hlt : kq < 24 := by omega
                refine z_iload (j := 0) o dX8_sheet_93 rfl ?_
                refine z_bipush (v := 24) o dX8_sheet_95 (by decide) ?_
                refine z_icmpge (tgt := 119) o dX8_sheet_97 (by decide) (fun c13 => ?_) (fun c13 => ?_)
                · exact absurd (nI_lt (a := kq) (b := 24) (by omega) (by omega)) c13
                · refine z_aload_n (j := 1) o dX8_sheet_100 rfl ?_
                  refine zo_get (i := 82) o hB dX8_sheet_101 zf_X8_28 rfl (by decide) rfl ?_
                  refine z_bipush (v := 24) o dX8_sheet_104 (by decide) ?_
                  refine z_iload_n (j := 2) o dX8_sheet_106 rfl ?_
                  refine z_imul o dX8_sheet_107 ?_
                  refine zo_rw (y := nI (24 * sa)) (zn_mul (rfl) (rfl)) ?_
                  refine z_iload (j := 0) o dX8_sheet_108 rfl ?_
                  refine z_iadd o dX8_sheet_110 ?_
                  refine zo_rw (y := nI (24 * sa + kq)) (zn_add (rfl) (rfl)) ?_
                  refine z_iconst (v := 0) o dX8_sheet_111 (by decide) ?_
                  refine zo_iast (i := 89) (j := 24 * sa + kq) o hB dX8_sheet_112 rfl (show 24 * sa + kq < 96 by omega) (by decide) ?_
                  rw [zu_va]
                  refine z_iinc (j := 0) (v := nI (kq + 1)) (lv2 := [(4, .int (nI (kq + 1))), (0, zref B 82), (1, .int (nI sa))]) o dX8_sheet_113 rfl (zn_ofInt _) (by decide) rfl ?_
                  refine z_goto (tgt := 93) o dX8_sheet_116 (by decide) ?_
                  refine zo_lv [0, 1, 2] rfl ?_
                  exact ih (kq + 1) (by omega)
            refine zo_lv [0, 1, 2] rfl ?_
            have h0 := LOOP 24 0 rfl
            rw [show va_up (va_up (va_up M 87 (upd (M 87) sa 0)) 88 (upd (M 88) sa 0)) 89 (sp_zero (M 89) sa 0) = va_up (va_up M 87 (upd (M 87) sa 0)) 88 (upd (M 88) sa 0) from va_up_id (va_up (va_up M 87 (upd (M 87) sa 0)) 88 (upd (M 88) sa 0)) 89] at h0
            exact h0
        · exact absurd c10 (by decide)
      · exact absurd c9 (by decide)
    · refine z_iload_n (j := 2) o dX8_sheet_11 rfl ?_
      refine z_bipush (v := 8) o dX8_sheet_12 (by decide) ?_
      refine z_icmpeq (tgt := 36) o dX8_sheet_14 (by decide) (fun c14 => ?_) (fun c14 => ?_)
      · subst c14
        refine z_iload_n (j := 2) o dX8_sheet_36 rfl ?_
        refine z_ifle (tgt := 51) o dX8_sheet_37 (by decide) (fun c15 => ?_) (fun c15 => ?_)
        · exact absurd c15 (by decide)
        · refine z_iload_n (j := 3) o dX8_sheet_40 rfl ?_
          refine z_ifge (tgt := 51) o dX8_sheet_41 (by decide) (fun c16 => ?_) (fun c16 => ?_)
          · refine z_iload_n (j := 2) o dX8_sheet_51 rfl ?_
            refine z_ifle (tgt := 68) o dX8_sheet_52 (by decide) (fun c17 => ?_) (fun c17 => ?_)
            · exact absurd c17 (by decide)
            · refine z_iload_n (j := 3) o dX8_sheet_55 rfl ?_
              refine z_bipush (v := 24) o dX8_sheet_56 (by decide) ?_
              refine z_icmple (tgt := 68) o dX8_sheet_58 (by decide) (fun c18 => ?_) (fun c18 => ?_)
              · refine z_aload_n (j := 0) o dX8_sheet_68 rfl ?_
                refine zo_get (i := 82) o hB dX8_sheet_69 zf_X8_22 rfl (by decide) rfl ?_
                refine z_iload_n (j := 1) o dX8_sheet_72 rfl ?_
                refine z_iload_n (j := 2) o dX8_sheet_73 rfl ?_
                refine zo_iast (i := 87) (j := sa) o hB dX8_sheet_74 rfl (show sa < 4 by omega) (by decide) ?_
                rw [show zu M 87 sa 8 = va_up M 87 (upd (M 87) sa 8) from rfl]
                refine z_aload_n (j := 0) o dX8_sheet_75 rfl ?_
                refine zo_get (i := 82) o hB dX8_sheet_76 zf_X8_25 rfl (by decide) rfl ?_
                refine z_iload_n (j := 1) o dX8_sheet_79 rfl ?_
                refine z_iload_n (j := 2) o dX8_sheet_80 rfl ?_
                refine z_ifne (tgt := 88) o dX8_sheet_81 (by decide) (fun c19 => ?_) (fun c19 => ?_)
                · refine z_iload_n (j := 3) o dX8_sheet_88 rfl ?_
                  refine zo_iast (i := 88) (j := sa) o hB dX8_sheet_89 rfl (show sa < 4 by omega) (by decide) ?_
                  rw [show zu (va_up M 87 (upd (M 87) sa 8)) 88 sa n = va_up (va_up M 87 (upd (M 87) sa 8)) 88 (upd (M 88) sa n) from rfl]
                  refine z_iconst (v := 0) o dX8_sheet_90 (by decide) ?_
                  refine z_istore (i := 4) (lv2 := [(4, .int 0), (0, zref B 82), (1, .int (nI sa)), (2, .int 8), (3, .int n)]) o dX8_sheet_91 (by decide) rfl ?_
                  have LOOP : ∀ nq kq : Nat, kq + nq = 24 → zW X B (zg B (va_up (va_up (va_up M 87 (upd (M 87) sa 8)) 88 (upd (M 88) sa n)) 89 (sp_zero (M 89) sa kq)) N) 93 [(4, .int (nI kq)), (0, zref B 82), (1, .int (nI sa))] [] := by
                    intro nq
                    induction nq with
                    | zero =>
                      intro kq hkq
                      obtain rfl : kq = 24 := by omega
                      refine z_iload (j := 0) o dX8_sheet_93 rfl ?_
                      refine z_bipush (v := 24) o dX8_sheet_95 (by decide) ?_
                      refine z_icmpge (tgt := 119) o dX8_sheet_97 (by decide) (fun c20 => ?_) (fun c20 => ?_)
                      · refine z_iconst (v := 1) o dX8_sheet_119 (by decide) ?_
                        exact kret _ _ _ _ dX8_sheet_120 ⟨by unfold sq_sheet; (try rw [zn_nI (n := sa) (by omega)]); rw [if_neg c4]; rw [if_neg (by decide), if_pos rfl]; rw [if_neg c16]; rw [if_neg c18] <;> (try rfl), by unfold sq_sheet; (try rw [zn_nI (n := sa) (by omega)]); rw [if_neg c4]; rw [if_neg (by decide), if_pos rfl]; rw [if_neg c16]; rw [if_neg c18] <;> (try rfl)⟩
                      · exact absurd c20 (nI_nlt (a := 24) (b := 24) (by omega) (by omega))
                    | succ nq ih =>
                      intro kq hkq
                      have hlt : kq < 24 := by omega
                      refine z_iload (j := 0) o dX8_sheet_93 rfl ?_
                      refine z_bipush (v := 24) o dX8_sheet_95 (by decide) ?_
                      refine z_icmpge (tgt := 119) o dX8_sheet_97 (by decide) (fun c21 => ?_) (fun c21 => ?_)
                      · exact absurd (nI_lt (a := kq) (b := 24) (by omega) (by omega)) c21
                      · refine z_aload_n (j := 1) o dX8_sheet_100 rfl ?_
                        refine zo_get (i := 82) o hB dX8_sheet_101 zf_X8_28 rfl (by decide) rfl ?_
                        refine z_bipush (v := 24) o dX8_sheet_104 (by decide) ?_
                        refine z_iload_n (j := 2) o dX8_sheet_106 rfl ?_
                        refine z_imul o dX8_sheet_107 ?_
                        refine zo_rw (y := nI (24 * sa)) (zn_mul (rfl) (rfl)) ?_
                        refine z_iload (j := 0) o dX8_sheet_108 rfl ?_
                        refine z_iadd o dX8_sheet_110 ?_
                        refine zo_rw (y := nI (24 * sa + kq)) (zn_add (rfl) (rfl)) ?_
                        refine z_iconst (v := 0) o dX8_sheet_111 (by decide) ?_
                        refine zo_iast (i := 89) (j := 24 * sa + kq) o hB dX8_sheet_112 rfl (show 24 * sa + kq < 96 by omega) (by decide) ?_
                        rw [zu_va]
                        refine z_iinc (j := 0) (v := nI (kq + 1)) (lv2 := [(4, .int (nI (kq + 1))), (0, zref B 82), (1, .int (nI sa))]) o dX8_sheet_113 rfl (zn_ofInt _) (by decide) rfl ?_
                        refine z_goto (tgt := 93) o dX8_sheet_116 (by decide) ?_
                        refine zo_lv [0, 1, 2] rfl ?_
                        exact ih (kq + 1) (by omega)
                  refine zo_lv [0, 1, 2] rfl ?_
                  have h0 := LOOP 24 0 rfl
                  rw [show va_up (va_up (va_up M 87 (upd (M 87) sa 8)) 88 (upd (M 88) sa n)) 89 (sp_zero (M 89) sa 0) = va_up (va_up M 87 (upd (M 87) sa 8)) 88 (upd (M 88) sa n) from va_up_id (va_up (va_up M 87 (upd (M 87) sa 8)) 88 (upd (M 88) sa n)) 89] at h0
                  exact h0
                · exact absurd c19 (by decide)
              · refine z_aload_n (j := 0) o dX8_sheet_61 rfl ?_
                refine z_ldc (v := (-1000000001)) o dX8_sheet_62 zk_X8_100 ?_
                refine z_callVi (As := [.int (-1000000001)]) (n := 1) (st := []) o dX8_sheet_64 (c_X8_error hB M N 1 (by omega)) zc_X8_101 (by decide) (i := 82) (by rw [hB]; exact zsh_lt rfl (by decide)) (zg_o rfl (by decide)) rfl rfl rfl (Nat.le_of_ble_eq_true rfl) (fun r22 g23 p24 => ?_)
                obtain ⟨rfl, rfl⟩ := p24
                exact kret _ _ _ _ dX8_sheet_67 ⟨by unfold sq_sheet; (try rw [zn_nI (n := sa) (by omega)]); rw [if_neg c4]; rw [if_neg (by decide), if_pos rfl]; rw [if_neg c16]; rw [if_pos c18] <;> (try rfl), by unfold sq_sheet; (try rw [zn_nI (n := sa) (by omega)]); rw [if_neg c4]; rw [if_neg (by decide), if_pos rfl]; rw [if_neg c16]; rw [if_pos c18] <;> (try rfl)⟩
          · refine z_aload_n (j := 0) o dX8_sheet_44 rfl ?_
            refine z_ldc (v := (-1000000003)) o dX8_sheet_45 zk_X8_123 ?_
            refine z_callVi (As := [.int (-1000000003)]) (n := 1) (st := []) o dX8_sheet_47 (c_X8_error hB M N 3 (by omega)) zc_X8_101 (by decide) (i := 82) (by rw [hB]; exact zsh_lt rfl (by decide)) (zg_o rfl (by decide)) rfl rfl rfl (Nat.le_of_ble_eq_true rfl) (fun r25 g26 p27 => ?_)
            obtain ⟨rfl, rfl⟩ := p27
            exact kret _ _ _ _ dX8_sheet_50 ⟨by unfold sq_sheet; (try rw [zn_nI (n := sa) (by omega)]); rw [if_neg c4]; rw [if_neg (by decide), if_pos rfl]; rw [if_pos c16] <;> (try rfl), by unfold sq_sheet; (try rw [zn_nI (n := sa) (by omega)]); rw [if_neg c4]; rw [if_neg (by decide), if_pos rfl]; rw [if_pos c16] <;> (try rfl)⟩
      · refine z_iload_n (j := 2) o dX8_sheet_17 rfl ?_
        refine z_bipush (v := 16) o dX8_sheet_18 (by decide) ?_
        refine z_icmpeq (tgt := 36) o dX8_sheet_20 (by decide) (fun c28 => ?_) (fun c28 => ?_)
        · subst c28
          refine z_iload_n (j := 2) o dX8_sheet_36 rfl ?_
          refine z_ifle (tgt := 51) o dX8_sheet_37 (by decide) (fun c29 => ?_) (fun c29 => ?_)
          · exact absurd c29 (by decide)
          · refine z_iload_n (j := 3) o dX8_sheet_40 rfl ?_
            refine z_ifge (tgt := 51) o dX8_sheet_41 (by decide) (fun c30 => ?_) (fun c30 => ?_)
            · refine z_iload_n (j := 2) o dX8_sheet_51 rfl ?_
              refine z_ifle (tgt := 68) o dX8_sheet_52 (by decide) (fun c31 => ?_) (fun c31 => ?_)
              · exact absurd c31 (by decide)
              · refine z_iload_n (j := 3) o dX8_sheet_55 rfl ?_
                refine z_bipush (v := 24) o dX8_sheet_56 (by decide) ?_
                refine z_icmple (tgt := 68) o dX8_sheet_58 (by decide) (fun c32 => ?_) (fun c32 => ?_)
                · refine z_aload_n (j := 0) o dX8_sheet_68 rfl ?_
                  refine zo_get (i := 82) o hB dX8_sheet_69 zf_X8_22 rfl (by decide) rfl ?_
                  refine z_iload_n (j := 1) o dX8_sheet_72 rfl ?_
                  refine z_iload_n (j := 2) o dX8_sheet_73 rfl ?_
                  refine zo_iast (i := 87) (j := sa) o hB dX8_sheet_74 rfl (show sa < 4 by omega) (by decide) ?_
                  rw [show zu M 87 sa 16 = va_up M 87 (upd (M 87) sa 16) from rfl]
                  refine z_aload_n (j := 0) o dX8_sheet_75 rfl ?_
                  refine zo_get (i := 82) o hB dX8_sheet_76 zf_X8_25 rfl (by decide) rfl ?_
                  refine z_iload_n (j := 1) o dX8_sheet_79 rfl ?_
                  refine z_iload_n (j := 2) o dX8_sheet_80 rfl ?_
                  refine z_ifne (tgt := 88) o dX8_sheet_81 (by decide) (fun c33 => ?_) (fun c33 => ?_)
                  · refine z_iload_n (j := 3) o dX8_sheet_88 rfl ?_
                    refine zo_iast (i := 88) (j := sa) o hB dX8_sheet_89 rfl (show sa < 4 by omega) (by decide) ?_
                    rw [show zu (va_up M 87 (upd (M 87) sa 16)) 88 sa n = va_up (va_up M 87 (upd (M 87) sa 16)) 88 (upd (M 88) sa n) from rfl]
                    refine z_iconst (v := 0) o dX8_sheet_90 (by decide) ?_
                    refine z_istore (i := 4) (lv2 := [(4, .int 0), (0, zref B 82), (1, .int (nI sa)), (2, .int 16), (3, .int n)]) o dX8_sheet_91 (by decide) rfl ?_
                    have LOOP : ∀ nq kq : Nat, kq + nq = 24 → zW X B (zg B (va_up (va_up (va_up M 87 (upd (M 87) sa 16)) 88 (upd (M 88) sa n)) 89 (sp_zero (M 89) sa kq)) N) 93 [(4, .int (nI kq)), (0, zref B 82), (1, .int (nI sa))] [] := by
                      intro nq
                      induction nq with
                      | zero =>
                        intro kq hkq
                        obtain rfl : kq = 24 := by omega
                        refine z_iload (j := 0) o dX8_sheet_93 rfl ?_
                        refine z_bipush (v := 24) o dX8_sheet_95 (by decide) ?_
                        refine z_icmpge (tgt := 119) o dX8_sheet_97 (by decide) (fun c34 => ?_) (fun c34 => ?_)
                        · refine z_iconst (v := 1) o dX8_sheet_119 (by decide) ?_
                          exact kret _ _ _ _ dX8_sheet_120 ⟨by unfold sq_sheet; (try rw [zn_nI (n := sa) (by omega)]); rw [if_neg c4]; rw [if_neg (by decide), if_neg (by decide), if_pos rfl]; rw [if_neg c30]; rw [if_neg c32] <;> (try rfl), by unfold sq_sheet; (try rw [zn_nI (n := sa) (by omega)]); rw [if_neg c4]; rw [if_neg (by decide), if_neg (by decide), if_pos rfl]; rw [if_neg c30]; rw [if_neg c32] <;> (try rfl)⟩
                        · exact absurd c34 (nI_nlt (a := 24) (b := 24) (by omega) (by omega))
                      | succ nq ih =>
                        intro kq hkq
                        have hlt : kq < 24 := by omega
                        refine z_iload (j := 0) o dX8_sheet_93 rfl ?_
                        refine z_bipush (v := 24) o dX8_sheet_95 (by decide) ?_
                        refine z_icmpge (tgt := 119) o dX8_sheet_97 (by decide) (fun c35 => ?_) (fun c35 => ?_)
                        · exact absurd (nI_lt (a := kq) (b := 24) (by omega) (by omega)) c35
                        · refine z_aload_n (j := 1) o dX8_sheet_100 rfl ?_
                          refine zo_get (i := 82) o hB dX8_sheet_101 zf_X8_28 rfl (by decide) rfl ?_
                          refine z_bipush (v := 24) o dX8_sheet_104 (by decide) ?_
                          refine z_iload_n (j := 2) o dX8_sheet_106 rfl ?_
                          refine z_imul o dX8_sheet_107 ?_
                          refine zo_rw (y := nI (24 * sa)) (zn_mul (rfl) (rfl)) ?_
                          refine z_iload (j := 0) o dX8_sheet_108 rfl ?_
                          refine z_iadd o dX8_sheet_110 ?_
                          refine zo_rw (y := nI (24 * sa + kq)) (zn_add (rfl) (rfl)) ?_
                          refine z_iconst (v := 0) o dX8_sheet_111 (by decide) ?_
                          refine zo_iast (i := 89) (j := 24 * sa + kq) o hB dX8_sheet_112 rfl (show 24 * sa + kq < 96 by omega) (by decide) ?_
                          rw [zu_va]
                          refine z_iinc (j := 0) (v := nI (kq + 1)) (lv2 := [(4, .int (nI (kq + 1))), (0, zref B 82), (1, .int (nI sa))]) o dX8_sheet_113 rfl (zn_ofInt _) (by decide) rfl ?_
                          refine z_goto (tgt := 93) o dX8_sheet_116 (by decide) ?_
                          refine zo_lv [0, 1, 2] rfl ?_
                          exact ih (kq + 1) (by omega)
                    refine zo_lv [0, 1, 2] rfl ?_
                    have h0 := LOOP 24 0 rfl
                    rw [show va_up (va_up (va_up M 87 (upd (M 87) sa 16)) 88 (upd (M 88) sa n)) 89 (sp_zero (M 89) sa 0) = va_up (va_up M 87 (upd (M 87) sa 16)) 88 (upd (M 88) sa n) from va_up_id (va_up (va_up M 87 (upd (M 87) sa 16)) 88 (upd (M 88) sa n)) 89] at h0
                    exact h0
                  · exact absurd c33 (by decide)
                · refine z_aload_n (j := 0) o dX8_sheet_61 rfl ?_
                  refine z_ldc (v := (-1000000001)) o dX8_sheet_62 zk_X8_100 ?_
                  refine z_callVi (As := [.int (-1000000001)]) (n := 1) (st := []) o dX8_sheet_64 (c_X8_error hB M N 1 (by omega)) zc_X8_101 (by decide) (i := 82) (by rw [hB]; exact zsh_lt rfl (by decide)) (zg_o rfl (by decide)) rfl rfl rfl (Nat.le_of_ble_eq_true rfl) (fun r36 g37 p38 => ?_)
                  obtain ⟨rfl, rfl⟩ := p38
                  exact kret _ _ _ _ dX8_sheet_67 ⟨by unfold sq_sheet; (try rw [zn_nI (n := sa) (by omega)]); rw [if_neg c4]; rw [if_neg (by decide), if_neg (by decide), if_pos rfl]; rw [if_neg c30]; rw [if_pos c32] <;> (try rfl), by unfold sq_sheet; (try rw [zn_nI (n := sa) (by omega)]); rw [if_neg c4]; rw [if_neg (by decide), if_neg (by decide), if_pos rfl]; rw [if_neg c30]; rw [if_pos c32] <;> (try rfl)⟩
            · refine z_aload_n (j := 0) o dX8_sheet_44 rfl ?_
              refine z_ldc (v := (-1000000003)) o dX8_sheet_45 zk_X8_123 ?_
              refine z_callVi (As := [.int (-1000000003)]) (n := 1) (st := []) o dX8_sheet_47 (c_X8_error hB M N 3 (by omega)) zc_X8_101 (by decide) (i := 82) (by rw [hB]; exact zsh_lt rfl (by decide)) (zg_o rfl (by decide)) rfl rfl rfl (Nat.le_of_ble_eq_true rfl) (fun r39 g40 p41 => ?_)
              obtain ⟨rfl, rfl⟩ := p41
              exact kret _ _ _ _ dX8_sheet_50 ⟨by unfold sq_sheet; (try rw [zn_nI (n := sa) (by omega)]); rw [if_neg c4]; rw [if_neg (by decide), if_neg (by decide), if_pos rfl]; rw [if_pos c30] <;> (try rfl), by unfold sq_sheet; (try rw [zn_nI (n := sa) (by omega)]); rw [if_neg c4]; rw [if_neg (by decide), if_neg (by decide), if_pos rfl]; rw [if_pos c30] <;> (try rfl)⟩
        · refine z_iload_n (j := 2) o dX8_sheet_23 rfl ?_
          refine z_bipush (v := 32) o dX8_sheet_24 (by decide) ?_
          refine z_icmpeq (tgt := 36) o dX8_sheet_26 (by decide) (fun c42 => ?_) (fun c42 => ?_)
          · subst c42
            refine z_iload_n (j := 2) o dX8_sheet_36 rfl ?_
            refine z_ifle (tgt := 51) o dX8_sheet_37 (by decide) (fun c43 => ?_) (fun c43 => ?_)
            · exact absurd c43 (by decide)
            · refine z_iload_n (j := 3) o dX8_sheet_40 rfl ?_
              refine z_ifge (tgt := 51) o dX8_sheet_41 (by decide) (fun c44 => ?_) (fun c44 => ?_)
              · refine z_iload_n (j := 2) o dX8_sheet_51 rfl ?_
                refine z_ifle (tgt := 68) o dX8_sheet_52 (by decide) (fun c45 => ?_) (fun c45 => ?_)
                · exact absurd c45 (by decide)
                · refine z_iload_n (j := 3) o dX8_sheet_55 rfl ?_
                  refine z_bipush (v := 24) o dX8_sheet_56 (by decide) ?_
                  refine z_icmple (tgt := 68) o dX8_sheet_58 (by decide) (fun c46 => ?_) (fun c46 => ?_)
                  · refine z_aload_n (j := 0) o dX8_sheet_68 rfl ?_
                    refine zo_get (i := 82) o hB dX8_sheet_69 zf_X8_22 rfl (by decide) rfl ?_
                    refine z_iload_n (j := 1) o dX8_sheet_72 rfl ?_
                    refine z_iload_n (j := 2) o dX8_sheet_73 rfl ?_
                    refine zo_iast (i := 87) (j := sa) o hB dX8_sheet_74 rfl (show sa < 4 by omega) (by decide) ?_
                    rw [show zu M 87 sa 32 = va_up M 87 (upd (M 87) sa 32) from rfl]
                    refine z_aload_n (j := 0) o dX8_sheet_75 rfl ?_
                    refine zo_get (i := 82) o hB dX8_sheet_76 zf_X8_25 rfl (by decide) rfl ?_
                    refine z_iload_n (j := 1) o dX8_sheet_79 rfl ?_
                    refine z_iload_n (j := 2) o dX8_sheet_80 rfl ?_
                    refine z_ifne (tgt := 88) o dX8_sheet_81 (by decide) (fun c47 => ?_) (fun c47 => ?_)
                    · refine z_iload_n (j := 3) o dX8_sheet_88 rfl ?_
                      refine zo_iast (i := 88) (j := sa) o hB dX8_sheet_89 rfl (show sa < 4 by omega) (by decide) ?_
                      rw [show zu (va_up M 87 (upd (M 87) sa 32)) 88 sa n = va_up (va_up M 87 (upd (M 87) sa 32)) 88 (upd (M 88) sa n) from rfl]
                      refine z_iconst (v := 0) o dX8_sheet_90 (by decide) ?_
                      refine z_istore (i := 4) (lv2 := [(4, .int 0), (0, zref B 82), (1, .int (nI sa)), (2, .int 32), (3, .int n)]) o dX8_sheet_91 (by decide) rfl ?_
                      have LOOP : ∀ nq kq : Nat, kq + nq = 24 → zW X B (zg B (va_up (va_up (va_up M 87 (upd (M 87) sa 32)) 88 (upd (M 88) sa n)) 89 (sp_zero (M 89) sa kq)) N) 93 [(4, .int (nI kq)), (0, zref B 82), (1, .int (nI sa))] [] := by
                        intro nq
                        induction nq with
                        | zero =>
                          intro kq hkq
                          obtain rfl : kq = 24 := by omega
                          refine z_iload (j := 0) o dX8_sheet_93 rfl ?_
                          refine z_bipush (v := 24) o dX8_sheet_95 (by decide) ?_
                          refine z_icmpge (tgt := 119) o dX8_sheet_97 (by decide) (fun c48 => ?_) (fun c48 => ?_)
                          · refine z_iconst (v := 1) o dX8_sheet_119 (by decide) ?_
                            exact kret _ _ _ _ dX8_sheet_120 ⟨by unfold sq_sheet; (try rw [zn_nI (n := sa) (by omega)]); rw [if_neg c4]; rw [if_neg (by decide), if_neg (by decide), if_neg (by decide), if_pos rfl]; rw [if_neg c44]; rw [if_neg c46] <;> (try rfl), by unfold sq_sheet; (try rw [zn_nI (n := sa) (by omega)]); rw [if_neg c4]; rw [if_neg (by decide), if_neg (by decide), if_neg (by decide), if_pos rfl]; rw [if_neg c44]; rw [if_neg c46] <;> (try rfl)⟩
                          · exact absurd c48 (nI_nlt (a := 24) (b := 24) (by omega) (by omega))
                        | succ nq ih =>
                          intro kq hkq
                          have hlt : kq < 24 := by omega
                          refine z_iload (j := 0) o dX8_sheet_93 rfl ?_
                          refine z_bipush (v := 24) o dX8_sheet_95 (by decide) ?_
                          refine z_icmpge (tgt := 119) o dX8_sheet_97 (by decide) (fun c49 => ?_) (fun c49 => ?_)
                          · exact absurd (nI_lt (a := kq) (b := 24) (by omega) (by omega)) c49
                          · refine z_aload_n (j := 1) o dX8_sheet_100 rfl ?_
                            refine zo_get (i := 82) o hB dX8_sheet_101 zf_X8_28 rfl (by decide) rfl ?_
                            refine z_bipush (v := 24) o dX8_sheet_104 (by decide) ?_
                            refine z_iload_n (j := 2) o dX8_sheet_106 rfl ?_
                            refine z_imul o dX8_sheet_107 ?_
                            refine zo_rw (y := nI (24 * sa)) (zn_mul (rfl) (rfl)) ?_
                            refine z_iload (j := 0) o dX8_sheet_108 rfl ?_
                            refine z_iadd o dX8_sheet_110 ?_
                            refine zo_rw (y := nI (24 * sa + kq)) (zn_add (rfl) (rfl)) ?_
                            refine z_iconst (v := 0) o dX8_sheet_111 (by decide) ?_
                            refine zo_iast (i := 89) (j := 24 * sa + kq) o hB dX8_sheet_112 rfl (show 24 * sa + kq < 96 by omega) (by decide) ?_
                            rw [zu_va]
                            refine z_iinc (j := 0) (v := nI (kq + 1)) (lv2 := [(4, .int (nI (kq + 1))), (0, zref B 82), (1, .int (nI sa))]) o dX8_sheet_113 rfl (zn_ofInt _) (by decide) rfl ?_
                            refine z_goto (tgt := 93) o dX8_sheet_116 (by decide) ?_
                            refine zo_lv [0, 1, 2] rfl ?_
                            exact ih (kq + 1) (by omega)
                      refine zo_lv [0, 1, 2] rfl ?_
                      have h0 := LOOP 24 0 rfl
                      rw [show va_up (va_up (va_up M 87 (upd (M 87) sa 32)) 88 (upd (M 88) sa n)) 89 (sp_zero (M 89) sa 0) = va_up (va_up M 87 (upd (M 87) sa 32)) 88 (upd (M 88) sa n) from va_up_id (va_up (va_up M 87 (upd (M 87) sa 32)) 88 (upd (M 88) sa n)) 89] at h0
                      exact h0
                    · exact absurd c47 (by decide)
                  · refine z_aload_n (j := 0) o dX8_sheet_61 rfl ?_
                    refine z_ldc (v := (-1000000001)) o dX8_sheet_62 zk_X8_100 ?_
                    refine z_callVi (As := [.int (-1000000001)]) (n := 1) (st := []) o dX8_sheet_64 (c_X8_error hB M N 1 (by omega)) zc_X8_101 (by decide) (i := 82) (by rw [hB]; exact zsh_lt rfl (by decide)) (zg_o rfl (by decide)) rfl rfl rfl (Nat.le_of_ble_eq_true rfl) (fun r50 g51 p52 => ?_)
                    obtain ⟨rfl, rfl⟩ := p52
                    exact kret _ _ _ _ dX8_sheet_67 ⟨by unfold sq_sheet; (try rw [zn_nI (n := sa) (by omega)]); rw [if_neg c4]; rw [if_neg (by decide), if_neg (by decide), if_neg (by decide), if_pos rfl]; rw [if_neg c44]; rw [if_pos c46] <;> (try rfl), by unfold sq_sheet; (try rw [zn_nI (n := sa) (by omega)]); rw [if_neg c4]; rw [if_neg (by decide), if_neg (by decide), if_neg (by decide), if_pos rfl]; rw [if_neg c44]; rw [if_pos c46] <;> (try rfl)⟩
              · refine z_aload_n (j := 0) o dX8_sheet_44 rfl ?_
                refine z_ldc (v := (-1000000003)) o dX8_sheet_45 zk_X8_123 ?_
                refine z_callVi (As := [.int (-1000000003)]) (n := 1) (st := []) o dX8_sheet_47 (c_X8_error hB M N 3 (by omega)) zc_X8_101 (by decide) (i := 82) (by rw [hB]; exact zsh_lt rfl (by decide)) (zg_o rfl (by decide)) rfl rfl rfl (Nat.le_of_ble_eq_true rfl) (fun r53 g54 p55 => ?_)
                obtain ⟨rfl, rfl⟩ := p55
                exact kret _ _ _ _ dX8_sheet_50 ⟨by unfold sq_sheet; (try rw [zn_nI (n := sa) (by omega)]); rw [if_neg c4]; rw [if_neg (by decide), if_neg (by decide), if_neg (by decide), if_pos rfl]; rw [if_pos c44] <;> (try rfl), by unfold sq_sheet; (try rw [zn_nI (n := sa) (by omega)]); rw [if_neg c4]; rw [if_neg (by decide), if_neg (by decide), if_neg (by decide), if_pos rfl]; rw [if_pos c44] <;> (try rfl)⟩
          · refine z_aload_n (j := 0) o dX8_sheet_29 rfl ?_
            refine z_ldc (v := (-1000000001)) o dX8_sheet_30 zk_X8_100 ?_
            refine z_callVi (As := [.int (-1000000001)]) (n := 1) (st := []) o dX8_sheet_32 (c_X8_error hB M N 1 (by omega)) zc_X8_101 (by decide) (i := 82) (by rw [hB]; exact zsh_lt rfl (by decide)) (zg_o rfl (by decide)) rfl rfl rfl (Nat.le_of_ble_eq_true rfl) (fun r56 g57 p58 => ?_)
            obtain ⟨rfl, rfl⟩ := p58
            exact kret _ _ _ _ dX8_sheet_35 ⟨by unfold sq_sheet; (try rw [zn_nI (n := sa) (by omega)]); rw [if_neg c4]; rw [if_neg c8, if_neg c14, if_neg c28, if_neg c42] <;> (try rfl), by unfold sq_sheet; (try rw [zn_nI (n := sa) (by omega)]); rw [if_neg c4]; rw [if_neg c8, if_neg c14, if_neg c28, if_neg c42] <;> (try rfl)⟩

