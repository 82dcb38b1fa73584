/-! the reference: what it answers to a call (1) -/
theorem isPost_nat {ρ : Nat → Int32} {f p : Int32} (hok : zOkR ρ) (h : ¬ sp_isPost ρ f p = 0) : ∃ a b : Nat, a < sp_nf ρ ∧ b < sp_np ρ a ∧ f = nI a ∧ p = nI b := by
  obtain ⟨hnf, hnf4⟩ := ok_nf2 hok
  unfold sp_isPost at h
  by_cases h1 : zin f 0 (ρ 2 - 1) = 0
  · rw [if_pos h1] at h; exact absurd rfl h
  · rw [if_neg h1] at h
    rw [hnf] at h1
    obtain ⟨a, ha, rfl⟩ := zin_nat (by omega) h1
    rw [zn_nI (by omega)] at h
    obtain ⟨hnp, hnp8⟩ := ok_np2 hok (i := a) (by omega)
    by_cases h2 : zin p 0 (ρ (6 + 13 * a + 3) - 1) = 0
    · rw [if_pos h2] at h; exact absurd rfl h
    · rw [hnp] at h2
      obtain ⟨b, hb, rfl⟩ := zin_nat (by omega) h2
      exact ⟨a, b, ha, hb, rfl, rfl⟩
theorem upv_ne {M : zM} {ρ : Nat → Int32} {i j : Nat} {v : Int32} (h : j ≠ i) : va_up M 83 (upd ρ i v) 83 j = ρ j := by
  show upd ρ i v j = ρ j
  exact upd_ne h
def zEr (M : zM) (k : Nat) : zM := zu M 86 k (M 86 k + 1)
theorem zin_rng {v b : Int32} {lo n : Nat} {a : Int32} (ha : a.toInt = lo) (hb : b.toInt = n) (hn : n < 2 ^ 31) (h : ¬ zin v a b = 0) : ∃ k : Nat, lo ≤ k ∧ k ≤ n ∧ v = nI k := by
  have h1 := zin_1 h
  have h2 := zi_le h1.1
  have h3 := zi_le h1.2
  obtain ⟨k, hk, e⟩ := zle_of (x := v) (n := n) (by omega) (by omega) hn
  refine ⟨k, ?_, hk, e⟩
  rw [e, nI_toInt (by omega)] at h2
  omega
def sq_fence (M : zM) (km : Int32) (hd : Int32) : Int32 × zM :=
  if zin km 0 69 = 0 then (zE 1, zEr M 1) else if zin hd 0 3 = 0 then (zE 1, zEr M 1) else if nI (sp_nf (M 83)) = 4 then (zE 4, zEr M 4) else
  (nI (sp_nf (M 83)), va_up M 83 (upd (upd (upd (upd (upd (upd (M 83) 2 (nI (sp_nf (M 83) + 1))) (6 + 13 * sp_nf (M 83) + 0) (km / 10)) (6 + 13 * sp_nf (M 83) + 1) (zirem km 10)) (6 + 13 * sp_nf (M 83) + 2) hd) (6 + 13 * sp_nf (M 83) + 3) 0) (6 + 13 * sp_nf (M 83) + 4) 0))
set_option maxHeartbeats 4000000 in
set_option maxRecDepth 100000 in
theorem c_X8_fence {B : zB} (hB : znn B = 95) (M : zM) (N : zN) (km : Int32) (hd : Int32) (hok : zOkAll (M 83)) : zCi B (zg B M N) yX8_fence cX8_fence 4 (some .int) 5 [zref B 82, .int km, .int hd] (fun r g' => g' = zg B (sq_fence M km hd).2 N ∧ r = (sq_fence M km hd).1) := by
  refine zCi_of (by decide +kernel) (Nat.le_of_ble_eq_true rfl) .int rfl (fun _ _ _ => rfl) ?_
  intro X o kret
  show zW X B (zg B M N) 0 [(0, zref B 82), (1, .int km), (2, .int hd)] []
  obtain ⟨hnf, hnf4⟩ := ok_nf2 hok.1
  obtain ⟨hnc, hnc6⟩ := ok_nc2 hok.1
  refine z_iload_n (j := 1) o dX8_fence_0 rfl ?_
  refine z_callSi (As := [.int km]) (n := 1) (st := []) o dX8_fence_1 (c_X8_isKm hB M N km) zc_X8_96 (by decide) rfl rfl (Nat.le_of_ble_eq_true rfl) (fun r1 g2 p3 => ?_)
  obtain ⟨rfl, rfl⟩ := p3
  refine z_ifeq (tgt := 16) o dX8_fence_4 (by decide) (fun c4 => ?_) (fun c4 => ?_)
  · refine z_aload_n (j := 0) o dX8_fence_16 rfl ?_
    refine z_ldc (v := (-1000000001)) o dX8_fence_17 zk_X8_100 ?_
    refine z_callVi (As := [.int (-1000000001)]) (n := 1) (st := []) o dX8_fence_19 (c_X8_error hB M N 1 (by omega)) zc_X8_101 (by decide) (i := 82) (by rw [hB]; exact zsh_lt rfl (by decide)) (zg_o rfl (by decide)) rfl rfl rfl (Nat.le_of_ble_eq_true rfl) (fun r5 g6 p7 => ?_)
    obtain ⟨rfl, rfl⟩ := p7
    exact kret _ _ _ _ dX8_fence_22 ⟨by unfold sq_fence;  rw [if_pos c4] <;> (try rfl), by unfold sq_fence;  rw [if_pos c4] <;> (try rw [upv_ne (by omega)]) <;> (try rfl)⟩
  · refine z_iload_n (j := 2) o dX8_fence_7 rfl ?_
    refine z_iconst (v := 0) o dX8_fence_8 (by decide) ?_
    refine z_iconst (v := 3) o dX8_fence_9 (by decide) ?_
    refine z_callSi (As := [.int hd, .int 0, .int 3]) (n := 3) (st := []) o dX8_fence_10 (c_X8_in hB M N hd 0 3) zc_X8_51 (by decide) rfl rfl (Nat.le_of_ble_eq_true rfl) (fun r8 g9 p10 => ?_)
    obtain ⟨rfl, rfl⟩ := p10
    refine z_ifne (tgt := 23) o dX8_fence_13 (by decide) (fun c11 => ?_) (fun c11 => ?_)
    · refine z_aload_n (j := 0) o dX8_fence_23 rfl ?_
      refine zo_get (i := 82) o hB dX8_fence_24 zf_X8_9 rfl (by decide) rfl ?_
      refine z_iconst (v := 2) o dX8_fence_27 (by decide) ?_
      refine zo_iald (i := 83) (j := 2) o hB dX8_fence_28 rfl (show 2 < 524 by omega) (by decide) ?_
      refine zo_rw (y := nI (sp_nf (M 83))) (hnf) ?_
      refine z_istore_n (i := 3) (lv2 := [(3, .int (nI (sp_nf (M 83)))), (0, zref B 82), (1, .int km), (2, .int hd)]) o dX8_fence_29 rfl (by decide) rfl ?_
      refine z_iload_n (j := 0) o dX8_fence_30 rfl ?_
      refine z_iconst (v := 4) o dX8_fence_31 (by decide) ?_
      refine z_icmpne (tgt := 42) o dX8_fence_32 (by decide) (fun c12 => ?_) (fun c12 => ?_)
      · have hlt4 : sp_nf (M 83) < 4 := by
          rcases Nat.lt_or_ge (sp_nf (M 83)) 4 with q | q
          · exact q
          · exact absurd (by rw [show sp_nf (M 83) = 4 by omega]; rfl) c12
        refine z_aload_n (j := 1) o dX8_fence_42 rfl ?_
        refine zo_get (i := 82) o hB dX8_fence_43 zf_X8_9 rfl (by decide) rfl ?_
        refine z_iconst (v := 2) o dX8_fence_46 (by decide) ?_
        refine z_dup2 o dX8_fence_47 rfl rfl ?_
        refine zo_iald (i := 83) (j := 2) o hB dX8_fence_48 rfl (show 2 < 524 by omega) (by decide) ?_
        refine zo_rw (y := nI (sp_nf (M 83))) (hnf) ?_
        refine z_iconst (v := 1) o dX8_fence_49 (by decide) ?_
        refine z_iadd o dX8_fence_50 ?_
        refine zo_rw (y := nI (sp_nf (M 83) + 1)) (zn_add (rfl) (rfl)) ?_
        refine zo_iast (i := 83) (j := 2) o hB dX8_fence_51 rfl (show 2 < 524 by omega) (by decide) ?_
        rw [show zu M 83 2 (nI (sp_nf (M 83) + 1)) = va_up M 83 (upd (M 83) 2 (nI (sp_nf (M 83) + 1))) from rfl]
        refine z_aload_n (j := 1) o dX8_fence_52 rfl ?_
        refine z_iload_n (j := 0) o dX8_fence_53 rfl ?_
        refine z_iconst (v := 0) o dX8_fence_54 (by decide) ?_
        refine z_iload_n (j := 2) o dX8_fence_55 rfl ?_
        refine z_bipush (v := 10) o dX8_fence_56 (by decide) ?_
        refine z_idiv o dX8_fence_58 (by decide) ?_
        refine z_callVv (As := [.int (nI (sp_nf (M 83))), .int 0, .int (km / 10)]) (n := 3) (st := []) o dX8_fence_59 (c_X8_lets hB (va_up M 83 (upd (M 83) 2 (nI (sp_nf (M 83) + 1)))) N (sp_nf (M 83)) 0 (km / 10) (by omega)) zc_X8_65 (by decide) (i := 82) (by rw [hB]; exact zsh_lt rfl (by decide)) (zg_o rfl (by decide)) rfl rfl rfl (Nat.le_of_ble_eq_true rfl) (fun g14 p15 => ?_)
        cases p15
        rw [zu_va]
        refine z_aload_n (j := 1) o dX8_fence_62 rfl ?_
        refine z_iload_n (j := 0) o dX8_fence_63 rfl ?_
        refine z_iconst (v := 1) o dX8_fence_64 (by decide) ?_
        refine z_iload_n (j := 2) o dX8_fence_65 rfl ?_
        refine z_bipush (v := 10) o dX8_fence_66 (by decide) ?_
        refine z_irem o dX8_fence_68 (by decide) ?_
        refine z_callVv (As := [.int (nI (sp_nf (M 83))), .int 1, .int (km - km / 10 * 10)]) (n := 3) (st := []) o dX8_fence_69 (c_X8_lets hB (va_up M 83 (upd (upd (M 83) 2 (nI (sp_nf (M 83) + 1))) (6 + 13 * (sp_nf (M 83)) + 0) (km / 10))) N (sp_nf (M 83)) 1 (km - km / 10 * 10) (by omega)) zc_X8_65 (by decide) (i := 82) (by rw [hB]; exact zsh_lt rfl (by decide)) (zg_o rfl (by decide)) rfl rfl rfl (Nat.le_of_ble_eq_true rfl) (fun g17 p18 => ?_)
        cases p18
        rw [zu_va]
        refine z_aload_n (j := 1) o dX8_fence_72 rfl ?_
        refine z_iload_n (j := 0) o dX8_fence_73 rfl ?_
        refine z_iconst (v := 2) o dX8_fence_74 (by decide) ?_
        refine z_iload_n (j := 3) o dX8_fence_75 rfl ?_
        refine z_callVv (As := [.int (nI (sp_nf (M 83))), .int 2, .int hd]) (n := 3) (st := []) o dX8_fence_76 (c_X8_lets hB (va_up M 83 (upd (upd (upd (M 83) 2 (nI (sp_nf (M 83) + 1))) (6 + 13 * (sp_nf (M 83)) + 0) (km / 10)) (6 + 13 * (sp_nf (M 83)) + 1) (km - km / 10 * 10))) N (sp_nf (M 83)) 2 hd (by omega)) zc_X8_65 (by decide) (i := 82) (by rw [hB]; exact zsh_lt rfl (by decide)) (zg_o rfl (by decide)) rfl rfl rfl (Nat.le_of_ble_eq_true rfl) (fun g20 p21 => ?_)
        cases p21
        rw [zu_va]
        refine z_aload_n (j := 1) o dX8_fence_79 rfl ?_
        refine z_iload_n (j := 0) o dX8_fence_80 rfl ?_
        refine z_iconst (v := 3) o dX8_fence_81 (by decide) ?_
        refine z_iconst (v := 0) o dX8_fence_82 (by decide) ?_
        refine z_callVv (As := [.int (nI (sp_nf (M 83))), .int 3, .int 0]) (n := 3) (st := []) o dX8_fence_83 (c_X8_lets hB (va_up M 83 (upd (upd (upd (upd (M 83) 2 (nI (sp_nf (M 83) + 1))) (6 + 13 * (sp_nf (M 83)) + 0) (km / 10)) (6 + 13 * (sp_nf (M 83)) + 1) (km - km / 10 * 10)) (6 + 13 * (sp_nf (M 83)) + 2) hd)) N (sp_nf (M 83)) 3 0 (by omega)) zc_X8_65 (by decide) (i := 82) (by rw [hB]; exact zsh_lt rfl (by decide)) (zg_o rfl (by decide)) rfl rfl rfl (Nat.le_of_ble_eq_true rfl) (fun g23 p24 => ?_)
        cases p24
        rw [zu_va]
        refine z_aload_n (j := 1) o dX8_fence_86 rfl ?_
        refine z_iload_n (j := 0) o dX8_fence_87 rfl ?_
        refine z_iconst (v := 4) o dX8_fence_88 (by decide) ?_
        refine z_iconst (v := 0) o dX8_fence_89 (by decide) ?_
        refine z_callVv (As := [.int (nI (sp_nf (M 83))), .int 4, .int 0]) (n := 3) (st := []) o dX8_fence_90 (c_X8_lets hB (va_up M 83 (upd (upd (upd (upd (upd (M 83) 2 (nI (sp_nf (M 83) + 1))) (6 + 13 * (sp_nf (M 83)) + 0) (km / 10)) (6 + 13 * (sp_nf (M 83)) + 1) (km - km / 10 * 10)) (6 + 13 * (sp_nf (M 83)) + 2) hd) (6 + 13 * (sp_nf (M 83)) + 3) 0)) N (sp_nf (M 83)) 4 0 (by omega)) zc_X8_65 (by decide) (i := 82) (by rw [hB]; exact zsh_lt rfl (by decide)) (zg_o rfl (by decide)) rfl rfl rfl (Nat.le_of_ble_eq_true rfl) (fun g26 p27 => ?_)
        cases p27
        rw [zu_va]
        refine z_iload_n (j := 0) o dX8_fence_93 rfl ?_
        exact kret _ _ _ _ dX8_fence_94 ⟨by unfold sq_fence;  rw [if_neg c4, if_neg c11, if_neg c12] <;> (try rfl), by unfold sq_fence;  rw [if_neg c4, if_neg c11, if_neg c12] <;> (try rw [upv_ne (by omega)]) <;> (try rfl)⟩
      · refine z_aload_n (j := 1) o dX8_fence_35 rfl ?_
        refine z_ldc (v := (-1000000004)) o dX8_fence_36 zk_X8_105 ?_
        refine z_callVi (As := [.int (-1000000004)]) (n := 1) (st := []) o dX8_fence_38 (c_X8_error hB M N 4 (by omega)) zc_X8_101 (by decide) (i := 82) (by rw [hB]; exact zsh_lt rfl (by decide)) (zg_o rfl (by decide)) rfl rfl rfl (Nat.le_of_ble_eq_true rfl) (fun r28 g29 p30 => ?_)
        obtain ⟨rfl, rfl⟩ := p30
        exact kret _ _ _ _ dX8_fence_41 ⟨by unfold sq_fence;  rw [if_neg c4, if_neg c11, if_pos c12] <;> (try rfl), by unfold sq_fence;  rw [if_neg c4, if_neg c11, if_pos c12] <;> (try rw [upv_ne (by omega)]) <;> (try rfl)⟩
    · refine z_aload_n (j := 0) o dX8_fence_16 rfl ?_
      refine z_ldc (v := (-1000000001)) o dX8_fence_17 zk_X8_100 ?_
      refine z_callVi (As := [.int (-1000000001)]) (n := 1) (st := []) o dX8_fence_19 (c_X8_error hB M N 1 (by omega)) zc_X8_101 (by decide) (i := 82) (by rw [hB]; exact zsh_lt rfl (by decide)) (zg_o rfl (by decide)) rfl rfl rfl (Nat.le_of_ble_eq_true rfl) (fun r31 g32 p33 => ?_)
      obtain ⟨rfl, rfl⟩ := p33
      exact kret _ _ _ _ dX8_fence_22 ⟨by unfold sq_fence;  rw [if_neg c4, if_pos c11] <;> (try rfl), by unfold sq_fence;  rw [if_neg c4, if_pos c11] <;> (try rw [upv_ne (by omega)]) <;> (try rfl)⟩

def sq_at (M : zM) (f : Int32) (p : Int32) : Int32 × zM :=
  if sp_isPost (M 83) f p = 0 then (zE 1, zEr M 1) else (M 83 (6 + 13 * zn f + (5 + zn p)), M)
set_option maxHeartbeats 4000000 in
set_option maxRecDepth 100000 in
theorem c_X8_at {B : zB} (hB : znn B = 95) (M : zM) (N : zN) (f : Int32) (p : Int32) (hok : zOkAll (M 83)) : zCi B (zg B M N) yX8_at cX8_at 3 (some .int) 5 [zref B 82, .int f, .int p] (fun r g' => g' = zg B (sq_at M f p).2 N ∧ r = (sq_at M f p).1) := by
  refine zCi_of (by decide +kernel) (Nat.le_of_ble_eq_true rfl) .int rfl (fun _ _ _ => rfl) ?_
  intro X o kret
  show zW X B (zg B M N) 0 [(0, zref B 82), (1, .int f), (2, .int p)] []
  obtain ⟨hnf, hnf4⟩ := ok_nf2 hok.1
  obtain ⟨hnc, hnc6⟩ := ok_nc2 hok.1
  refine z_aload_n (j := 0) o dX8_at_0 rfl ?_
  refine z_iload_n (j := 1) o dX8_at_1 rfl ?_
  refine z_iload_n (j := 2) o dX8_at_2 rfl ?_
  refine z_callVi (As := [.int f, .int p]) (n := 2) (st := []) o dX8_at_3 (c_X8_isPost hB M N f p hok.1) zc_X8_115 (by decide) (i := 82) (by rw [hB]; exact zsh_lt rfl (by decide)) (zg_o rfl (by decide)) rfl rfl rfl (Nat.le_of_ble_eq_true rfl) (fun r1 g2 p3 => ?_)
  obtain ⟨rfl, rfl⟩ := p3
  refine z_ifeq (tgt := 20) o dX8_at_6 (by decide) (fun c4 => ?_) (fun c4 => ?_)
  · refine z_aload_n (j := 0) o dX8_at_20 rfl ?_
    refine z_ldc (v := (-1000000001)) o dX8_at_21 zk_X8_100 ?_
    refine z_callVi (As := [.int (-1000000001)]) (n := 1) (st := []) o dX8_at_23 (c_X8_error hB M N 1 (by omega)) zc_X8_101 (by decide) (i := 82) (by rw [hB]; exact zsh_lt rfl (by decide)) (zg_o rfl (by decide)) rfl rfl rfl (Nat.le_of_ble_eq_true rfl) (fun r5 g6 p7 => ?_)
    obtain ⟨rfl, rfl⟩ := p7
    exact kret _ _ _ _ dX8_at_26 ⟨by unfold sq_at;  rw [if_pos c4] <;> (try rfl), by unfold sq_at;  rw [if_pos c4] <;> (try rw [upv_ne (by omega)]) <;> (try rfl)⟩
  · obtain ⟨fa, pb, hfa, hpb, ef, ep⟩ := isPost_nat hok.1 c4
    subst ef
    subst ep
    have hnp8 := (ok_np2 hok.1 (i := fa) (by omega)).2
    refine z_aload_n (j := 0) o dX8_at_9 rfl ?_
    refine z_iload_n (j := 1) o dX8_at_10 rfl ?_
    refine z_iconst (v := 5) o dX8_at_11 (by decide) ?_
    refine z_iload_n (j := 2) o dX8_at_12 rfl ?_
    refine z_iadd o dX8_at_13 ?_
    refine zo_rw (y := nI (5 + pb)) (zn_add (rfl) (rfl)) ?_
    refine z_callVi (As := [.int (nI fa), .int (nI (5 + pb))]) (n := 2) (st := []) o dX8_at_14 (c_X8_of hB M N fa (5 + pb) (by omega)) zc_X8_55 (by decide) (i := 82) (by rw [hB]; exact zsh_lt rfl (by decide)) (zg_o rfl (by decide)) rfl rfl rfl (Nat.le_of_ble_eq_true rfl) (fun r8 g9 p10 => ?_)
    obtain ⟨rfl, rfl⟩ := p10
    refine z_goto (tgt := 26) o dX8_at_17 (by decide) ?_
    exact kret _ _ _ _ dX8_at_26 ⟨by unfold sq_at; (try rw [zn_nI (n := fa) (by omega)]); (try rw [zn_nI (n := pb) (by omega)]); rw [if_neg c4] <;> (try rfl), by unfold sq_at; (try rw [zn_nI (n := fa) (by omega)]); (try rw [zn_nI (n := pb) (by omega)]); rw [if_neg c4] <;> (try rw [upv_ne (by omega)]) <;> (try rfl)⟩

def sq_heads (M : zM) (f : Int32) (p : Int32) : Int32 × zM :=
  if sp_isPost (M 83) f p = 0 then (zE 1, zEr M 1) else (sp_heads (M 83) (zn f) (zn p), M)
set_option maxHeartbeats 4000000 in
set_option maxRecDepth 100000 in
theorem c_X8_heads {B : zB} (hB : znn B = 95) (M : zM) (N : zN) (f : Int32) (p : Int32) (hok : zOkAll (M 83)) : zCi B (zg B M N) yX8_heads cX8_heads 3 (some .int) 5 [zref B 82, .int f, .int p] (fun r g' => g' = zg B (sq_heads M f p).2 N ∧ r = (sq_heads M f p).1) := by
  refine zCi_of (by decide +kernel) (Nat.le_of_ble_eq_true rfl) .int rfl (fun _ _ _ => rfl) ?_
  intro X o kret
  show zW X B (zg B M N) 0 [(0, zref B 82), (1, .int f), (2, .int p)] []
  obtain ⟨hnf, hnf4⟩ := ok_nf2 hok.1
  obtain ⟨hnc, hnc6⟩ := ok_nc2 hok.1
  refine z_aload_n (j := 0) o dX8_heads_0 rfl ?_
  refine z_iload_n (j := 1) o dX8_heads_1 rfl ?_
  refine z_iload_n (j := 2) o dX8_heads_2 rfl ?_
  refine z_callVi (As := [.int f, .int p]) (n := 2) (st := []) o dX8_heads_3 (c_X8_isPost hB M N f p hok.1) zc_X8_115 (by decide) (i := 82) (by rw [hB]; exact zsh_lt rfl (by decide)) (zg_o rfl (by decide)) rfl rfl rfl (Nat.le_of_ble_eq_true rfl) (fun r1 g2 p3 => ?_)
  obtain ⟨rfl, rfl⟩ := p3
  refine z_ifeq (tgt := 18) o dX8_heads_6 (by decide) (fun c4 => ?_) (fun c4 => ?_)
  · refine z_aload_n (j := 0) o dX8_heads_18 rfl ?_
    refine z_ldc (v := (-1000000001)) o dX8_heads_19 zk_X8_100 ?_
    refine z_callVi (As := [.int (-1000000001)]) (n := 1) (st := []) o dX8_heads_21 (c_X8_error hB M N 1 (by omega)) zc_X8_101 (by decide) (i := 82) (by rw [hB]; exact zsh_lt rfl (by decide)) (zg_o rfl (by decide)) rfl rfl rfl (Nat.le_of_ble_eq_true rfl) (fun r5 g6 p7 => ?_)
    obtain ⟨rfl, rfl⟩ := p7
    exact kret _ _ _ _ dX8_heads_24 ⟨by unfold sq_heads;  rw [if_pos c4] <;> (try rfl), by unfold sq_heads;  rw [if_pos c4] <;> (try rw [upv_ne (by omega)]) <;> (try rfl)⟩
  · obtain ⟨fa, pb, hfa, hpb, ef, ep⟩ := isPost_nat hok.1 c4
    subst ef
    subst ep
    have hnp8 := (ok_np2 hok.1 (i := fa) (by omega)).2
    refine z_aload_n (j := 0) o dX8_heads_9 rfl ?_
    refine z_iload_n (j := 1) o dX8_heads_10 rfl ?_
    refine z_iload_n (j := 2) o dX8_heads_11 rfl ?_
    refine z_callVi (As := [.int (nI fa), .int (nI pb)]) (n := 2) (st := []) o dX8_heads_12 (c_X8_headsOf hB M N fa pb (by omega) (by omega) hok.1) zc_X8_59 (by decide) (i := 82) (by rw [hB]; exact zsh_lt rfl (by decide)) (zg_o rfl (by decide)) rfl rfl rfl (Nat.le_of_ble_eq_true rfl) (fun r8 g9 p10 => ?_)
    obtain ⟨rfl, rfl⟩ := p10
    refine z_goto (tgt := 24) o dX8_heads_15 (by decide) ?_
    exact kret _ _ _ _ dX8_heads_24 ⟨by unfold sq_heads; (try rw [zn_nI (n := fa) (by omega)]); (try rw [zn_nI (n := pb) (by omega)]); rw [if_neg c4] <;> (try rfl), by unfold sq_heads; (try rw [zn_nI (n := fa) (by omega)]); (try rw [zn_nI (n := pb) (by omega)]); rw [if_neg c4] <;> (try rw [upv_ne (by omega)]) <;> (try rfl)⟩

def sq_become (M : zM) (f : Int32) (km : Int32) : Int32 × zM :=
  if zin f 0 (M 83 2 - 1) = 0 then (zE 1, zEr M 1) else if zin km 0 69 = 0 then (zE 1, zEr M 1) else
  (M 83 (6 + 13 * zn f), va_up M 83 (upd (upd (M 83) (6 + 13 * zn f + 1) (zirem km 10)) (6 + 13 * zn f) (km / 10)))
set_option maxHeartbeats 4000000 in
set_option maxRecDepth 100000 in
theorem c_X8_become {B : zB} (hB : znn B = 95) (M : zM) (N : zN) (f : Int32) (km : Int32) (hok : zOkAll (M 83)) : zCi B (zg B M N) yX8_become cX8_become 3 (some .int) 5 [zref B 82, .int f, .int km] (fun r g' => g' = zg B (sq_become M f km).2 N ∧ r = (sq_become M f km).1) := by
  refine zCi_of (by decide +kernel) (Nat.le_of_ble_eq_true rfl) .int rfl (fun _ _ _ => rfl) ?_
  intro X o kret
  show zW X B (zg B M N) 0 [(0, zref B 82), (1, .int f), (2, .int km)] []
  obtain ⟨hnf, hnf4⟩ := ok_nf2 hok.1
  obtain ⟨hnc, hnc6⟩ := ok_nc2 hok.1
  refine z_aload_n (j := 0) o dX8_become_0 rfl ?_
  refine z_iload_n (j := 1) o dX8_become_1 rfl ?_
  refine z_callVi (As := [.int f]) (n := 1) (st := []) o dX8_become_2 (c_X8_isFence hB M N f) zc_X8_106 (by decide) (i := 82) (by rw [hB]; exact zsh_lt rfl (by decide)) (zg_o rfl (by decide)) rfl rfl rfl (Nat.le_of_ble_eq_true rfl) (fun r1 g2 p3 => ?_)
  obtain ⟨rfl, rfl⟩ := p3
  refine z_ifeq (tgt := 15) o dX8_become_5 (by decide) (fun c4 => ?_) (fun c4 => ?_)
  · refine z_aload_n (j := 0) o dX8_become_15 rfl ?_
    refine z_ldc (v := (-1000000001)) o dX8_become_16 zk_X8_100 ?_
    refine z_callVi (As := [.int (-1000000001)]) (n := 1) (st := []) o dX8_become_18 (c_X8_error hB M N 1 (by omega)) zc_X8_101 (by decide) (i := 82) (by rw [hB]; exact zsh_lt rfl (by decide)) (zg_o rfl (by decide)) rfl rfl rfl (Nat.le_of_ble_eq_true rfl) (fun r5 g6 p7 => ?_)
    obtain ⟨rfl, rfl⟩ := p7
    exact kret _ _ _ _ dX8_become_21 ⟨by unfold sq_become;  rw [if_pos c4] <;> (try rfl), by unfold sq_become;  rw [if_pos c4] <;> (try rw [upv_ne (by omega)]) <;> (try rfl)⟩
  · have hzf := c4
    rw [hnf] at hzf
    obtain ⟨fa, hfa, efa⟩ := zin_nat (by omega) hzf
    subst efa
    refine z_iload_n (j := 2) o dX8_become_8 rfl ?_
    refine z_callSi (As := [.int km]) (n := 1) (st := []) o dX8_become_9 (c_X8_isKm hB M N km) zc_X8_96 (by decide) rfl rfl (Nat.le_of_ble_eq_true rfl) (fun r8 g9 p10 => ?_)
    obtain ⟨rfl, rfl⟩ := p10
    refine z_ifne (tgt := 22) o dX8_become_12 (by decide) (fun c11 => ?_) (fun c11 => ?_)
    · refine z_aload_n (j := 0) o dX8_become_22 rfl ?_
      refine z_iload_n (j := 1) o dX8_become_23 rfl ?_
      refine z_iconst (v := 1) o dX8_become_24 (by decide) ?_
      refine z_iload_n (j := 2) o dX8_become_25 rfl ?_
      refine z_bipush (v := 10) o dX8_become_26 (by decide) ?_
      refine z_irem o dX8_become_28 (by decide) ?_
      refine z_callVv (As := [.int (nI fa), .int 1, .int (km - km / 10 * 10)]) (n := 3) (st := []) o dX8_become_29 (c_X8_lets hB M N fa 1 (km - km / 10 * 10) (by omega)) zc_X8_65 (by decide) (i := 82) (by rw [hB]; exact zsh_lt rfl (by decide)) (zg_o rfl (by decide)) rfl rfl rfl (Nat.le_of_ble_eq_true rfl) (fun g13 p14 => ?_)
      cases p14
      rw [show zu M 83 (6 + 13 * fa + 1) (km - km / 10 * 10) = va_up M 83 (upd (M 83) (6 + 13 * fa + 1) (km - km / 10 * 10)) from rfl]
      refine z_aload_n (j := 0) o dX8_become_32 rfl ?_
      refine z_bipush (v := 6) o dX8_become_33 (by decide) ?_
      refine z_bipush (v := 13) o dX8_become_35 (by decide) ?_
      refine z_iload_n (j := 1) o dX8_become_37 rfl ?_
      refine z_imul o dX8_become_38 ?_
      refine zo_rw (y := nI (13 * fa)) (zn_mul (rfl) (rfl)) ?_
      refine z_iadd o dX8_become_39 ?_
      refine zo_rw (y := nI (6 + 13 * fa)) (zn_add (rfl) (rfl)) ?_
      refine z_iload_n (j := 2) o dX8_become_40 rfl ?_
      refine z_bipush (v := 10) o dX8_become_41 (by decide) ?_
      refine z_idiv o dX8_become_43 (by decide) ?_
      refine z_callVi (As := [.int (nI (6 + 13 * fa)), .int (km / 10)]) (n := 2) (st := []) o dX8_become_44 (c_X8_becomes hB (va_up M 83 (upd (M 83) (6 + 13 * fa + 1) (km - km / 10 * 10))) N (6 + 13 * fa) (km / 10) (by omega)) zc_X8_119 (by decide) (i := 82) (by rw [hB]; exact zsh_lt rfl (by decide)) (zg_o rfl (by decide)) rfl rfl rfl (Nat.le_of_ble_eq_true rfl) (fun r15 g16 p17 => ?_)
      obtain ⟨rfl, rfl⟩ := p17
      rw [zu_va]
      exact kret _ _ _ _ dX8_become_47 ⟨by unfold sq_become; (try rw [zn_nI (n := fa) (by omega)]); rw [if_neg c4, if_neg c11] <;> (try rfl), by unfold sq_become; (try rw [zn_nI (n := fa) (by omega)]); rw [if_neg c4, if_neg c11] <;> (try rw [upv_ne (by omega)]) <;> (try rfl)⟩
    · refine z_aload_n (j := 0) o dX8_become_15 rfl ?_
      refine z_ldc (v := (-1000000001)) o dX8_become_16 zk_X8_100 ?_
      refine z_callVi (As := [.int (-1000000001)]) (n := 1) (st := []) o dX8_become_18 (c_X8_error hB M N 1 (by omega)) zc_X8_101 (by decide) (i := 82) (by rw [hB]; exact zsh_lt rfl (by decide)) (zg_o rfl (by decide)) rfl rfl rfl (Nat.le_of_ble_eq_true rfl) (fun r18 g19 p20 => ?_)
      obtain ⟨rfl, rfl⟩ := p20
      exact kret _ _ _ _ dX8_become_21 ⟨by unfold sq_become; (try rw [zn_nI (n := fa) (by omega)]); rw [if_neg c4, if_pos c11] <;> (try rfl), by unfold sq_become; (try rw [zn_nI (n := fa) (by omega)]); rw [if_neg c4, if_pos c11] <;> (try rw [upv_ne (by omega)]) <;> (try rfl)⟩

def sq_turn (M : zM) (f : Int32) (hd : Int32) : Int32 × zM :=
  if zin f 0 (M 83 2 - 1) = 0 then (zE 1, zEr M 1) else if zin hd 0 3 = 0 then (zE 1, zEr M 1) else (M 83 (6 + 13 * zn f + 2), va_up M 83 (upd (M 83) (6 + 13 * zn f + 2) hd))
set_option maxHeartbeats 4000000 in
set_option maxRecDepth 100000 in
theorem c_X8_turn {B : zB} (hB : znn B = 95) (M : zM) (N : zN) (f : Int32) (hd : Int32) (hok : zOkAll (M 83)) : zCi B (zg B M N) yX8_turn cX8_turn 3 (some .int) 5 [zref B 82, .int f, .int hd] (fun r g' => g' = zg B (sq_turn M f hd).2 N ∧ r = (sq_turn M f hd).1) := by
  refine zCi_of (by decide +kernel) (Nat.le_of_ble_eq_true rfl) .int rfl (fun _ _ _ => rfl) ?_
  intro X o kret
  show zW X B (zg B M N) 0 [(0, zref B 82), (1, .int f), (2, .int hd)] []
  obtain ⟨hnf, hnf4⟩ := ok_nf2 hok.1
  obtain ⟨hnc, hnc6⟩ := ok_nc2 hok.1
  refine z_aload_n (j := 0) o dX8_turn_0 rfl ?_
  refine z_iload_n (j := 1) o dX8_turn_1 rfl ?_
  refine z_callVi (As := [.int f]) (n := 1) (st := []) o dX8_turn_2 (c_X8_isFence hB M N f) zc_X8_106 (by decide) (i := 82) (by rw [hB]; exact zsh_lt rfl (by decide)) (zg_o rfl (by decide)) rfl rfl rfl (Nat.le_of_ble_eq_true rfl) (fun r1 g2 p3 => ?_)
  obtain ⟨rfl, rfl⟩ := p3
  refine z_ifeq (tgt := 34) o dX8_turn_5 (by decide) (fun c4 => ?_) (fun c4 => ?_)
  · refine z_aload_n (j := 0) o dX8_turn_34 rfl ?_
    refine z_ldc (v := (-1000000001)) o dX8_turn_35 zk_X8_100 ?_
    refine z_callVi (As := [.int (-1000000001)]) (n := 1) (st := []) o dX8_turn_37 (c_X8_error hB M N 1 (by omega)) zc_X8_101 (by decide) (i := 82) (by rw [hB]; exact zsh_lt rfl (by decide)) (zg_o rfl (by decide)) rfl rfl rfl (Nat.le_of_ble_eq_true rfl) (fun r5 g6 p7 => ?_)
    obtain ⟨rfl, rfl⟩ := p7
    exact kret _ _ _ _ dX8_turn_40 ⟨by unfold sq_turn;  rw [if_pos c4] <;> (try rfl), by unfold sq_turn;  rw [if_pos c4] <;> (try rw [upv_ne (by omega)]) <;> (try rfl)⟩
  · have hzf := c4
    rw [hnf] at hzf
    obtain ⟨fa, hfa, efa⟩ := zin_nat (by omega) hzf
    subst efa
    refine z_iload_n (j := 2) o dX8_turn_8 rfl ?_
    refine z_iconst (v := 0) o dX8_turn_9 (by decide) ?_
    refine z_iconst (v := 3) o dX8_turn_10 (by decide) ?_
    refine z_callSi (As := [.int hd, .int 0, .int 3]) (n := 3) (st := []) o dX8_turn_11 (c_X8_in hB M N hd 0 3) zc_X8_51 (by decide) rfl rfl (Nat.le_of_ble_eq_true rfl) (fun r8 g9 p10 => ?_)
    obtain ⟨rfl, rfl⟩ := p10
    refine z_ifeq (tgt := 34) o dX8_turn_14 (by decide) (fun c11 => ?_) (fun c11 => ?_)
    · refine z_aload_n (j := 0) o dX8_turn_34 rfl ?_
      refine z_ldc (v := (-1000000001)) o dX8_turn_35 zk_X8_100 ?_
      refine z_callVi (As := [.int (-1000000001)]) (n := 1) (st := []) o dX8_turn_37 (c_X8_error hB M N 1 (by omega)) zc_X8_101 (by decide) (i := 82) (by rw [hB]; exact zsh_lt rfl (by decide)) (zg_o rfl (by decide)) rfl rfl rfl (Nat.le_of_ble_eq_true rfl) (fun r12 g13 p14 => ?_)
      obtain ⟨rfl, rfl⟩ := p14
      exact kret _ _ _ _ dX8_turn_40 ⟨by unfold sq_turn; (try rw [zn_nI (n := fa) (by omega)]); rw [if_neg c4, if_pos c11] <;> (try rfl), by unfold sq_turn; (try rw [zn_nI (n := fa) (by omega)]); rw [if_neg c4, if_pos c11] <;> (try rw [upv_ne (by omega)]) <;> (try rfl)⟩
    · refine z_aload_n (j := 0) o dX8_turn_17 rfl ?_
      refine z_bipush (v := 6) o dX8_turn_18 (by decide) ?_
      refine z_bipush (v := 13) o dX8_turn_20 (by decide) ?_
      refine z_iload_n (j := 1) o dX8_turn_22 rfl ?_
      refine z_imul o dX8_turn_23 ?_
      refine zo_rw (y := nI (13 * fa)) (zn_mul (rfl) (rfl)) ?_
      refine z_iadd o dX8_turn_24 ?_
      refine zo_rw (y := nI (6 + 13 * fa)) (zn_add (rfl) (rfl)) ?_
      refine z_iconst (v := 2) o dX8_turn_25 (by decide) ?_
      refine z_iadd o dX8_turn_26 ?_
      refine zo_rw (y := nI (6 + 13 * fa + 2)) (zn_add (rfl) (rfl)) ?_
      refine z_iload_n (j := 2) o dX8_turn_27 rfl ?_
      refine z_callVi (As := [.int (nI (6 + 13 * fa + 2)), .int hd]) (n := 2) (st := []) o dX8_turn_28 (c_X8_becomes hB M N (6 + 13 * fa + 2) hd (by omega)) zc_X8_119 (by decide) (i := 82) (by rw [hB]; exact zsh_lt rfl (by decide)) (zg_o rfl (by decide)) rfl rfl rfl (Nat.le_of_ble_eq_true rfl) (fun r15 g16 p17 => ?_)
      obtain ⟨rfl, rfl⟩ := p17
      rw [show zu M 83 (6 + 13 * fa + 2) hd = va_up M 83 (upd (M 83) (6 + 13 * fa + 2) hd) from rfl]
      refine z_goto (tgt := 40) o dX8_turn_31 (by decide) ?_
      exact kret _ _ _ _ dX8_turn_40 ⟨by unfold sq_turn; (try rw [zn_nI (n := fa) (by omega)]); rw [if_neg c4, if_neg c11] <;> (try rfl), by unfold sq_turn; (try rw [zn_nI (n := fa) (by omega)]); rw [if_neg c4, if_neg c11] <;> (try rw [upv_ne (by omega)]) <;> (try rfl)⟩

def sq_as (M : zM) (f : Int32) (kd : Int32) : Int32 × zM :=
  if zin f 0 (M 83 2 - 1) = 0 then (zE 1, zEr M 1) else if zin kd 0 6 = 0 then (zE 1, zEr M 1) else
  if kd = 0 then (M 83 (6 + 13 * zn f + 1), M) else if kd = M 83 (6 + 13 * zn f + 0) then (M 83 (6 + 13 * zn f + 1), M)
  else if kd = 1 then (if M 83 (6 + 13 * zn f + 0) = 4 then (M 83 (6 + 13 * zn f + 1), M) else if kd = 2 then (if M 83 (6 + 13 * zn f + 0) = 5 then (M 83 (6 + 13 * zn f + 1), M) else (zE 5, zEr M 5)) else (zE 5, zEr M 5))
  else if kd = 2 then (if M 83 (6 + 13 * zn f + 0) = 5 then (M 83 (6 + 13 * zn f + 1), M) else (zE 5, zEr M 5)) else (zE 5, zEr M 5)
set_option maxHeartbeats 4000000 in
set_option maxRecDepth 100000 in
theorem c_X8_as {B : zB} (hB : znn B = 95) (M : zM) (N : zN) (f : Int32) (kd : Int32) (hok : zOkAll (M 83)) : zCi B (zg B M N) yX8_as cX8_as 5 (some .int) 5 [zref B 82, .int f, .int kd] (fun r g' => g' = zg B (sq_as M f kd).2 N ∧ r = (sq_as M f kd).1) := by
  refine zCi_of (by decide +kernel) (Nat.le_of_ble_eq_true rfl) .int rfl (fun _ _ _ => rfl) ?_
  intro X o kret
  show zW X B (zg B M N) 0 [(0, zref B 82), (1, .int f), (2, .int kd)] []
  obtain ⟨hnf, hnf4⟩ := ok_nf2 hok.1
  obtain ⟨hnc, hnc6⟩ := ok_nc2 hok.1
  refine z_aload_n (j := 0) o dX8_as_0 rfl ?_
  refine z_iload_n (j := 1) o dX8_as_1 rfl ?_
  refine z_callVi (As := [.int f]) (n := 1) (st := []) o dX8_as_2 (c_X8_isFence hB M N f) zc_X8_106 (by decide) (i := 82) (by rw [hB]; exact zsh_lt rfl (by decide)) (zg_o rfl (by decide)) rfl rfl rfl (Nat.le_of_ble_eq_true rfl) (fun r1 g2 p3 => ?_)
  obtain ⟨rfl, rfl⟩ := p3
  refine z_ifeq (tgt := 18) o dX8_as_5 (by decide) (fun c4 => ?_) (fun c4 => ?_)
  · refine z_aload_n (j := 0) o dX8_as_18 rfl ?_
    refine z_ldc (v := (-1000000001)) o dX8_as_19 zk_X8_100 ?_
    refine z_callVi (As := [.int (-1000000001)]) (n := 1) (st := []) o dX8_as_21 (c_X8_error hB M N 1 (by omega)) zc_X8_101 (by decide) (i := 82) (by rw [hB]; exact zsh_lt rfl (by decide)) (zg_o rfl (by decide)) rfl rfl rfl (Nat.le_of_ble_eq_true rfl) (fun r5 g6 p7 => ?_)
    obtain ⟨rfl, rfl⟩ := p7
    exact kret _ _ _ _ dX8_as_24 ⟨by unfold sq_as;  rw [if_pos c4] <;> (try rfl), by unfold sq_as;  rw [if_pos c4] <;> (try rw [upv_ne (by omega)]) <;> (try rfl)⟩
  · have hzf := c4
    rw [hnf] at hzf
    obtain ⟨fa, hfa, efa⟩ := zin_nat (by omega) hzf
    subst efa
    refine z_iload_n (j := 2) o dX8_as_8 rfl ?_
    refine z_iconst (v := 0) o dX8_as_9 (by decide) ?_
    refine z_bipush (v := 6) o dX8_as_10 (by decide) ?_
    refine z_callSi (As := [.int kd, .int 0, .int 6]) (n := 3) (st := []) o dX8_as_12 (c_X8_in hB M N kd 0 6) zc_X8_51 (by decide) rfl rfl (Nat.le_of_ble_eq_true rfl) (fun r8 g9 p10 => ?_)
    obtain ⟨rfl, rfl⟩ := p10
    refine z_ifne (tgt := 25) o dX8_as_15 (by decide) (fun c11 => ?_) (fun c11 => ?_)
    · refine z_aload_n (j := 0) o dX8_as_25 rfl ?_
      refine z_iload_n (j := 1) o dX8_as_26 rfl ?_
      refine z_iconst (v := 0) o dX8_as_27 (by decide) ?_
      refine z_callVi (As := [.int (nI fa), .int 0]) (n := 2) (st := []) o dX8_as_28 (c_X8_of hB M N fa 0 (by omega)) zc_X8_55 (by decide) (i := 82) (by rw [hB]; exact zsh_lt rfl (by decide)) (zg_o rfl (by decide)) rfl rfl rfl (Nat.le_of_ble_eq_true rfl) (fun r12 g13 p14 => ?_)
      obtain ⟨rfl, rfl⟩ := p14
      refine z_istore_n (i := 3) (lv2 := [(3, .int (M 83 (6 + 13 * fa + 0))), (0, zref B 82), (1, .int (nI fa)), (2, .int kd)]) o dX8_as_31 rfl (by decide) rfl ?_
      refine z_iload_n (j := 3) o dX8_as_32 rfl ?_
      refine z_ifeq (tgt := 61) o dX8_as_33 (by decide) (fun c15 => ?_) (fun c15 => ?_)
      · refine z_iconst (v := 1) o dX8_as_61 (by decide) ?_
        refine z_goto (tgt := 66) o dX8_as_62 (by decide) ?_
        refine z_istore (i := 4) (lv2 := [(4, .int 1), (3, .int (M 83 (6 + 13 * fa + 0))), (0, zref B 82), (1, .int (nI fa)), (2, .int kd)]) o dX8_as_66 (by decide) rfl ?_
        refine z_iload (j := 0) o dX8_as_68 rfl ?_
        refine z_ifeq (tgt := 82) o dX8_as_70 (by decide) (fun c16 => ?_) (fun c16 => ?_)
        · exact absurd c16 (by decide)
        · refine z_aload_n (j := 2) o dX8_as_73 rfl ?_
          refine z_iload_n (j := 3) o dX8_as_74 rfl ?_
          refine z_iconst (v := 1) o dX8_as_75 (by decide) ?_
          refine z_callVi (As := [.int (nI fa), .int 1]) (n := 2) (st := []) o dX8_as_76 (c_X8_of hB M N fa 1 (by omega)) zc_X8_55 (by decide) (i := 82) (by rw [hB]; exact zsh_lt rfl (by decide)) (zg_o rfl (by decide)) rfl rfl rfl (Nat.le_of_ble_eq_true rfl) (fun r17 g18 p19 => ?_)
          obtain ⟨rfl, rfl⟩ := p19
          refine z_goto (tgt := 88) o dX8_as_79 (by decide) ?_
          exact kret _ _ _ _ dX8_as_88 ⟨by unfold sq_as; (try rw [zn_nI (n := fa) (by omega)]); rw [if_neg c4, if_neg c11, if_pos c15] <;> (try rfl), by unfold sq_as; (try rw [zn_nI (n := fa) (by omega)]); rw [if_neg c4, if_neg c11, if_pos c15] <;> (try rw [upv_ne (by omega)]) <;> (try rfl)⟩
      · refine z_iload_n (j := 3) o dX8_as_36 rfl ?_
        refine z_iload_n (j := 0) o dX8_as_37 rfl ?_
        refine z_icmpeq (tgt := 61) o dX8_as_38 (by decide) (fun c20 => ?_) (fun c20 => ?_)
        · refine z_iconst (v := 1) o dX8_as_61 (by decide) ?_
          refine z_goto (tgt := 66) o dX8_as_62 (by decide) ?_
          refine z_istore (i := 4) (lv2 := [(4, .int 1), (3, .int (M 83 (6 + 13 * fa + 0))), (0, zref B 82), (1, .int (nI fa)), (2, .int kd)]) o dX8_as_66 (by decide) rfl ?_
          refine z_iload (j := 0) o dX8_as_68 rfl ?_
          refine z_ifeq (tgt := 82) o dX8_as_70 (by decide) (fun c21 => ?_) (fun c21 => ?_)
          · exact absurd c21 (by decide)
          · refine z_aload_n (j := 2) o dX8_as_73 rfl ?_
            refine z_iload_n (j := 3) o dX8_as_74 rfl ?_
            refine z_iconst (v := 1) o dX8_as_75 (by decide) ?_
            refine z_callVi (As := [.int (nI fa), .int 1]) (n := 2) (st := []) o dX8_as_76 (c_X8_of hB M N fa 1 (by omega)) zc_X8_55 (by decide) (i := 82) (by rw [hB]; exact zsh_lt rfl (by decide)) (zg_o rfl (by decide)) rfl rfl rfl (Nat.le_of_ble_eq_true rfl) (fun r22 g23 p24 => ?_)
            obtain ⟨rfl, rfl⟩ := p24
            refine z_goto (tgt := 88) o dX8_as_79 (by decide) ?_
            exact kret _ _ _ _ dX8_as_88 ⟨by unfold sq_as; (try rw [zn_nI (n := fa) (by omega)]); rw [if_neg c4, if_neg c11, if_neg c15, if_pos c20] <;> (try rfl), by unfold sq_as; (try rw [zn_nI (n := fa) (by omega)]); rw [if_neg c4, if_neg c11, if_neg c15, if_pos c20] <;> (try rw [upv_ne (by omega)]) <;> (try rfl)⟩
        · refine z_iload_n (j := 3) o dX8_as_41 rfl ?_
          refine z_iconst (v := 1) o dX8_as_42 (by decide) ?_
          refine z_icmpne (tgt := 51) o dX8_as_43 (by decide) (fun c25 => ?_) (fun c25 => ?_)
          · refine z_iload_n (j := 3) o dX8_as_51 rfl ?_
            refine z_iconst (v := 2) o dX8_as_52 (by decide) ?_
            refine z_icmpne (tgt := 65) o dX8_as_53 (by decide) (fun c26 => ?_) (fun c26 => ?_)
            · refine z_iconst (v := 0) o dX8_as_65 (by decide) ?_
              refine z_istore (i := 4) (lv2 := [(4, .int 0), (3, .int (M 83 (6 + 13 * fa + 0))), (0, zref B 82), (1, .int (nI fa)), (2, .int kd)]) o dX8_as_66 (by decide) rfl ?_
              refine z_iload (j := 0) o dX8_as_68 rfl ?_
              refine z_ifeq (tgt := 82) o dX8_as_70 (by decide) (fun c27 => ?_) (fun c27 => ?_)
              · refine z_aload_n (j := 2) o dX8_as_82 rfl ?_
                refine z_ldc (v := (-1000000005)) o dX8_as_83 zk_X8_122 ?_
                refine z_callVi (As := [.int (-1000000005)]) (n := 1) (st := []) o dX8_as_85 (c_X8_error hB M N 5 (by omega)) zc_X8_101 (by decide) (i := 82) (by rw [hB]; exact zsh_lt rfl (by decide)) (zg_o rfl (by decide)) rfl rfl rfl (Nat.le_of_ble_eq_true rfl) (fun r28 g29 p30 => ?_)
                obtain ⟨rfl, rfl⟩ := p30
                exact kret _ _ _ _ dX8_as_88 ⟨by unfold sq_as; (try rw [zn_nI (n := fa) (by omega)]); rw [if_neg c4, if_neg c11, if_neg c15, if_neg c20, if_neg c25, if_neg c26] <;> (try rfl), by unfold sq_as; (try rw [zn_nI (n := fa) (by omega)]); rw [if_neg c4, if_neg c11, if_neg c15, if_neg c20, if_neg c25, if_neg c26] <;> (try rw [upv_ne (by omega)]) <;> (try rfl)⟩
              · exact absurd c27 (by decide)
            · refine z_iload_n (j := 0) o dX8_as_56 rfl ?_
              refine z_iconst (v := 5) o dX8_as_57 (by decide) ?_
              refine z_icmpne (tgt := 65) o dX8_as_58 (by decide) (fun c31 => ?_) (fun c31 => ?_)
              · refine z_iconst (v := 0) o dX8_as_65 (by decide) ?_
                refine z_istore (i := 4) (lv2 := [(4, .int 0), (3, .int (M 83 (6 + 13 * fa + 0))), (0, zref B 82), (1, .int (nI fa)), (2, .int kd)]) o dX8_as_66 (by decide) rfl ?_
                refine z_iload (j := 0) o dX8_as_68 rfl ?_
                refine z_ifeq (tgt := 82) o dX8_as_70 (by decide) (fun c32 => ?_) (fun c32 => ?_)
                · refine z_aload_n (j := 2) o dX8_as_82 rfl ?_
                  refine z_ldc (v := (-1000000005)) o dX8_as_83 zk_X8_122 ?_
                  refine z_callVi (As := [.int (-1000000005)]) (n := 1) (st := []) o dX8_as_85 (c_X8_error hB M N 5 (by omega)) zc_X8_101 (by decide) (i := 82) (by rw [hB]; exact zsh_lt rfl (by decide)) (zg_o rfl (by decide)) rfl rfl rfl (Nat.le_of_ble_eq_true rfl) (fun r33 g34 p35 => ?_)
                  obtain ⟨rfl, rfl⟩ := p35
                  exact kret _ _ _ _ dX8_as_88 ⟨by unfold sq_as; (try rw [zn_nI (n := fa) (by omega)]); rw [if_neg c4, if_neg c11, if_neg c15, if_neg c20, if_neg c25, if_pos c26, if_neg c31] <;> (try rfl), by unfold sq_as; (try rw [zn_nI (n := fa) (by omega)]); rw [if_neg c4, if_neg c11, if_neg c15, if_neg c20, if_neg c25, if_pos c26, if_neg c31] <;> (try rw [upv_ne (by omega)]) <;> (try rfl)⟩
                · exact absurd c32 (by decide)
              · refine z_iconst (v := 1) o dX8_as_61 (by decide) ?_
                refine z_goto (tgt := 66) o dX8_as_62 (by decide) ?_
                refine z_istore (i := 4) (lv2 := [(4, .int 1), (3, .int (M 83 (6 + 13 * fa + 0))), (0, zref B 82), (1, .int (nI fa)), (2, .int kd)]) o dX8_as_66 (by decide) rfl ?_
                refine z_iload (j := 0) o dX8_as_68 rfl ?_
                refine z_ifeq (tgt := 82) o dX8_as_70 (by decide) (fun c36 => ?_) (fun c36 => ?_)
                · exact absurd c36 (by decide)
                · refine z_aload_n (j := 2) o dX8_as_73 rfl ?_
                  refine z_iload_n (j := 3) o dX8_as_74 rfl ?_
                  refine z_iconst (v := 1) o dX8_as_75 (by decide) ?_
                  refine z_callVi (As := [.int (nI fa), .int 1]) (n := 2) (st := []) o dX8_as_76 (c_X8_of hB M N fa 1 (by omega)) zc_X8_55 (by decide) (i := 82) (by rw [hB]; exact zsh_lt rfl (by decide)) (zg_o rfl (by decide)) rfl rfl rfl (Nat.le_of_ble_eq_true rfl) (fun r37 g38 p39 => ?_)
                  obtain ⟨rfl, rfl⟩ := p39
                  refine z_goto (tgt := 88) o dX8_as_79 (by decide) ?_
                  exact kret _ _ _ _ dX8_as_88 ⟨by unfold sq_as; (try rw [zn_nI (n := fa) (by omega)]); rw [if_neg c4, if_neg c11, if_neg c15, if_neg c20, if_neg c25, if_pos c26, if_pos c31] <;> (try rfl), by unfold sq_as; (try rw [zn_nI (n := fa) (by omega)]); rw [if_neg c4, if_neg c11, if_neg c15, if_neg c20, if_neg c25, if_pos c26, if_pos c31] <;> (try rw [upv_ne (by omega)]) <;> (try rfl)⟩
          · refine z_iload_n (j := 0) o dX8_as_46 rfl ?_
            refine z_iconst (v := 4) o dX8_as_47 (by decide) ?_
            refine z_icmpeq (tgt := 61) o dX8_as_48 (by decide) (fun c40 => ?_) (fun c40 => ?_)
            · refine z_iconst (v := 1) o dX8_as_61 (by decide) ?_
              refine z_goto (tgt := 66) o dX8_as_62 (by decide) ?_
              refine z_istore (i := 4) (lv2 := [(4, .int 1), (3, .int (M 83 (6 + 13 * fa + 0))), (0, zref B 82), (1, .int (nI fa)), (2, .int kd)]) o dX8_as_66 (by decide) rfl ?_
              refine z_iload (j := 0) o dX8_as_68 rfl ?_
              refine z_ifeq (tgt := 82) o dX8_as_70 (by decide) (fun c41 => ?_) (fun c41 => ?_)
              · exact absurd c41 (by decide)
              · refine z_aload_n (j := 2) o dX8_as_73 rfl ?_
                refine z_iload_n (j := 3) o dX8_as_74 rfl ?_
                refine z_iconst (v := 1) o dX8_as_75 (by decide) ?_
                refine z_callVi (As := [.int (nI fa), .int 1]) (n := 2) (st := []) o dX8_as_76 (c_X8_of hB M N fa 1 (by omega)) zc_X8_55 (by decide) (i := 82) (by rw [hB]; exact zsh_lt rfl (by decide)) (zg_o rfl (by decide)) rfl rfl rfl (Nat.le_of_ble_eq_true rfl) (fun r42 g43 p44 => ?_)
                obtain ⟨rfl, rfl⟩ := p44
                refine z_goto (tgt := 88) o dX8_as_79 (by decide) ?_
                exact kret _ _ _ _ dX8_as_88 ⟨by unfold sq_as; (try rw [zn_nI (n := fa) (by omega)]); rw [if_neg c4, if_neg c11, if_neg c15, if_neg c20, if_pos c25, if_pos c40] <;> (try rfl), by unfold sq_as; (try rw [zn_nI (n := fa) (by omega)]); rw [if_neg c4, if_neg c11, if_neg c15, if_neg c20, if_pos c25, if_pos c40] <;> (try rw [upv_ne (by omega)]) <;> (try rfl)⟩
            · refine z_iload_n (j := 3) o dX8_as_51 rfl ?_
              refine z_iconst (v := 2) o dX8_as_52 (by decide) ?_
              refine z_icmpne (tgt := 65) o dX8_as_53 (by decide) (fun c45 => ?_) (fun c45 => ?_)
              · refine z_iconst (v := 0) o dX8_as_65 (by decide) ?_
                refine z_istore (i := 4) (lv2 := [(4, .int 0), (3, .int (M 83 (6 + 13 * fa + 0))), (0, zref B 82), (1, .int (nI fa)), (2, .int kd)]) o dX8_as_66 (by decide) rfl ?_
                refine z_iload (j := 0) o dX8_as_68 rfl ?_
                refine z_ifeq (tgt := 82) o dX8_as_70 (by decide) (fun c46 => ?_) (fun c46 => ?_)
                · refine z_aload_n (j := 2) o dX8_as_82 rfl ?_
                  refine z_ldc (v := (-1000000005)) o dX8_as_83 zk_X8_122 ?_
                  refine z_callVi (As := [.int (-1000000005)]) (n := 1) (st := []) o dX8_as_85 (c_X8_error hB M N 5 (by omega)) zc_X8_101 (by decide) (i := 82) (by rw [hB]; exact zsh_lt rfl (by decide)) (zg_o rfl (by decide)) rfl rfl rfl (Nat.le_of_ble_eq_true rfl) (fun r47 g48 p49 => ?_)
                  obtain ⟨rfl, rfl⟩ := p49
                  exact kret _ _ _ _ dX8_as_88 ⟨by unfold sq_as; (try rw [zn_nI (n := fa) (by omega)]); rw [if_neg c4, if_neg c11, if_neg c15, if_neg c20, if_pos c25, if_neg c40, if_neg c45] <;> (try rfl), by unfold sq_as; (try rw [zn_nI (n := fa) (by omega)]); rw [if_neg c4, if_neg c11, if_neg c15, if_neg c20, if_pos c25, if_neg c40, if_neg c45] <;> (try rw [upv_ne (by omega)]) <;> (try rfl)⟩
                · exact absurd c46 (by decide)
              · refine z_iload_n (j := 0) o dX8_as_56 rfl ?_
                refine z_iconst (v := 5) o dX8_as_57 (by decide) ?_
                refine z_icmpne (tgt := 65) o dX8_as_58 (by decide) (fun c50 => ?_) (fun c50 => ?_)
                · refine z_iconst (v := 0) o dX8_as_65 (by decide) ?_
                  refine z_istore (i := 4) (lv2 := [(4, .int 0), (3, .int (M 83 (6 + 13 * fa + 0))), (0, zref B 82), (1, .int (nI fa)), (2, .int kd)]) o dX8_as_66 (by decide) rfl ?_
                  refine z_iload (j := 0) o dX8_as_68 rfl ?_
                  refine z_ifeq (tgt := 82) o dX8_as_70 (by decide) (fun c51 => ?_) (fun c51 => ?_)
                  · refine z_aload_n (j := 2) o dX8_as_82 rfl ?_
                    refine z_ldc (v := (-1000000005)) o dX8_as_83 zk_X8_122 ?_
                    refine z_callVi (As := [.int (-1000000005)]) (n := 1) (st := []) o dX8_as_85 (c_X8_error hB M N 5 (by omega)) zc_X8_101 (by decide) (i := 82) (by rw [hB]; exact zsh_lt rfl (by decide)) (zg_o rfl (by decide)) rfl rfl rfl (Nat.le_of_ble_eq_true rfl) (fun r52 g53 p54 => ?_)
                    obtain ⟨rfl, rfl⟩ := p54
                    exact kret _ _ _ _ dX8_as_88 ⟨by unfold sq_as; (try rw [zn_nI (n := fa) (by omega)]); rw [if_neg c4, if_neg c11, if_neg c15, if_neg c20, if_pos c25, if_neg c40, if_pos c45, if_neg c50] <;> (try rfl), by unfold sq_as; (try rw [zn_nI (n := fa) (by omega)]); rw [if_neg c4, if_neg c11, if_neg c15, if_neg c20, if_pos c25, if_neg c40, if_pos c45, if_neg c50] <;> (try rw [upv_ne (by omega)]) <;> (try rfl)⟩
                  · exact absurd c51 (by decide)
                · refine z_iconst (v := 1) o dX8_as_61 (by decide) ?_
                  refine z_goto (tgt := 66) o dX8_as_62 (by decide) ?_
                  refine z_istore (i := 4) (lv2 := [(4, .int 1), (3, .int (M 83 (6 + 13 * fa + 0))), (0, zref B 82), (1, .int (nI fa)), (2, .int kd)]) o dX8_as_66 (by decide) rfl ?_
                  refine z_iload (j := 0) o dX8_as_68 rfl ?_
                  refine z_ifeq (tgt := 82) o dX8_as_70 (by decide) (fun c55 => ?_) (fun c55 => ?_)
                  · exact absurd c55 (by decide)
                  · refine z_aload_n (j := 2) o dX8_as_73 rfl ?_
                    refine z_iload_n (j := 3) o dX8_as_74 rfl ?_
                    refine z_iconst (v := 1) o dX8_as_75 (by decide) ?_
                    refine z_callVi (As := [.int (nI fa), .int 1]) (n := 2) (st := []) o dX8_as_76 (c_X8_of hB M N fa 1 (by omega)) zc_X8_55 (by decide) (i := 82) (by rw [hB]; exact zsh_lt rfl (by decide)) (zg_o rfl (by decide)) rfl rfl rfl (Nat.le_of_ble_eq_true rfl) (fun r56 g57 p58 => ?_)
                    obtain ⟨rfl, rfl⟩ := p58
                    refine z_goto (tgt := 88) o dX8_as_79 (by decide) ?_
                    exact kret _ _ _ _ dX8_as_88 ⟨by unfold sq_as; (try rw [zn_nI (n := fa) (by omega)]); rw [if_neg c4, if_neg c11, if_neg c15, if_neg c20, if_pos c25, if_neg c40, if_pos c45, if_pos c50] <;> (try rfl), by unfold sq_as; (try rw [zn_nI (n := fa) (by omega)]); rw [if_neg c4, if_neg c11, if_neg c15, if_neg c20, if_pos c25, if_neg c40, if_pos c45, if_pos c50] <;> (try rw [upv_ne (by omega)]) <;> (try rfl)⟩
    · refine z_aload_n (j := 0) o dX8_as_18 rfl ?_
      refine z_ldc (v := (-1000000001)) o dX8_as_19 zk_X8_100 ?_
      refine z_callVi (As := [.int (-1000000001)]) (n := 1) (st := []) o dX8_as_21 (c_X8_error hB M N 1 (by omega)) zc_X8_101 (by decide) (i := 82) (by rw [hB]; exact zsh_lt rfl (by decide)) (zg_o rfl (by decide)) rfl rfl rfl (Nat.le_of_ble_eq_true rfl) (fun r59 g60 p61 => ?_)
      obtain ⟨rfl, rfl⟩ := p61
      exact kret _ _ _ _ dX8_as_24 ⟨by unfold sq_as; (try rw [zn_nI (n := fa) (by omega)]); rw [if_neg c4, if_pos c11] <;> (try rfl), by unfold sq_as; (try rw [zn_nI (n := fa) (by omega)]); rw [if_neg c4, if_pos c11] <;> (try rw [upv_ne (by omega)]) <;> (try rfl)⟩

def sq_post (M : zM) (f : Int32) (c : Int32) : Int32 × zM :=
  if zin f 0 (M 83 2 - 1) = 0 then (zE 1, zEr M 1) else if zin c 0 63 = 0 then (zE 1, zEr M 1) else if nI (sp_np (M 83) (zn f)) = 8 then (zE 4, zEr M 4) else
  (nI (sp_np (M 83) (zn f) + 1), va_up M 83 (upd (upd (M 83) (6 + 13 * zn f + (5 + sp_np (M 83) (zn f))) c) (6 + 13 * zn f + 3) (nI (sp_np (M 83) (zn f) + 1))))
set_option maxHeartbeats 4000000 in
set_option maxRecDepth 100000 in
theorem c_X8_post {B : zB} (hB : znn B = 95) (M : zM) (N : zN) (f : Int32) (c : Int32) (hok : zOkAll (M 83)) : zCi B (zg B M N) yX8_post cX8_post 4 (some .int) 5 [zref B 82, .int f, .int c] (fun r g' => g' = zg B (sq_post M f c).2 N ∧ r = (sq_post M f c).1) := by
  refine zCi_of (by decide +kernel) (Nat.le_of_ble_eq_true rfl) .int rfl (fun _ _ _ => rfl) ?_
  intro X o kret
  show zW X B (zg B M N) 0 [(0, zref B 82), (1, .int f), (2, .int c)] []
  obtain ⟨hnf, hnf4⟩ := ok_nf2 hok.1
  obtain ⟨hnc, hnc6⟩ := ok_nc2 hok.1
  refine z_aload_n (j := 0) o dX8_post_0 rfl ?_
  refine z_iload_n (j := 1) o dX8_post_1 rfl ?_
  refine z_callVi (As := [.int f]) (n := 1) (st := []) o dX8_post_2 (c_X8_isFence hB M N f) zc_X8_106 (by decide) (i := 82) (by rw [hB]; exact zsh_lt rfl (by decide)) (zg_o rfl (by decide)) rfl rfl rfl (Nat.le_of_ble_eq_true rfl) (fun r1 g2 p3 => ?_)
  obtain ⟨rfl, rfl⟩ := p3
  refine z_ifeq (tgt := 15) o dX8_post_5 (by decide) (fun c4 => ?_) (fun c4 => ?_)
  · refine z_aload_n (j := 0) o dX8_post_15 rfl ?_
    refine z_ldc (v := (-1000000001)) o dX8_post_16 zk_X8_100 ?_
    refine z_callVi (As := [.int (-1000000001)]) (n := 1) (st := []) o dX8_post_18 (c_X8_error hB M N 1 (by omega)) zc_X8_101 (by decide) (i := 82) (by rw [hB]; exact zsh_lt rfl (by decide)) (zg_o rfl (by decide)) rfl rfl rfl (Nat.le_of_ble_eq_true rfl) (fun r5 g6 p7 => ?_)
    obtain ⟨rfl, rfl⟩ := p7
    exact kret _ _ _ _ dX8_post_21 ⟨by unfold sq_post;  rw [if_pos c4] <;> (try rfl), by unfold sq_post;  rw [if_pos c4] <;> (try rw [upv_ne (by omega)]) <;> (try rfl)⟩
  · have hzf := c4
    rw [hnf] at hzf
    obtain ⟨fa, hfa, efa⟩ := zin_nat (by omega) hzf
    subst efa
    obtain ⟨hnp, hnp8⟩ := ok_np2 hok.1 (i := fa) (by omega)
    refine z_iload_n (j := 2) o dX8_post_8 rfl ?_
    refine z_callSi (As := [.int c]) (n := 1) (st := []) o dX8_post_9 (c_X8_isCell hB M N c) zc_X8_109 (by decide) rfl rfl (Nat.le_of_ble_eq_true rfl) (fun r8 g9 p10 => ?_)
    obtain ⟨rfl, rfl⟩ := p10
    refine z_ifne (tgt := 22) o dX8_post_12 (by decide) (fun c11 => ?_) (fun c11 => ?_)
    · refine z_aload_n (j := 0) o dX8_post_22 rfl ?_
      refine z_iload_n (j := 1) o dX8_post_23 rfl ?_
      refine z_iconst (v := 3) o dX8_post_24 (by decide) ?_
      refine z_callVi (As := [.int (nI fa), .int 3]) (n := 2) (st := []) o dX8_post_25 (c_X8_of hB M N fa 3 (by omega)) zc_X8_55 (by decide) (i := 82) (by rw [hB]; exact zsh_lt rfl (by decide)) (zg_o rfl (by decide)) rfl rfl rfl (Nat.le_of_ble_eq_true rfl) (fun r12 g13 p14 => ?_)
      obtain ⟨rfl, rfl⟩ := p14
      refine zo_rw (y := nI (sp_np (M 83) fa)) (hnp) ?_
      refine z_istore_n (i := 3) (lv2 := [(3, .int (nI (sp_np (M 83) fa))), (0, zref B 82), (1, .int (nI fa)), (2, .int c)]) o dX8_post_28 rfl (by decide) rfl ?_
      refine z_iload_n (j := 0) o dX8_post_29 rfl ?_
      refine z_bipush (v := 8) o dX8_post_30 (by decide) ?_
      refine z_icmpne (tgt := 42) o dX8_post_32 (by decide) (fun c15 => ?_) (fun c15 => ?_)
      · have hlt8 : sp_np (M 83) fa < 8 := by
          rcases Nat.lt_or_ge (sp_np (M 83) fa) 8 with q | q
          · exact q
          · exact absurd (by rw [show sp_np (M 83) fa = 8 by omega]; rfl) c15
        refine z_aload_n (j := 1) o dX8_post_42 rfl ?_
        refine z_iload_n (j := 2) o dX8_post_43 rfl ?_
        refine z_iconst (v := 5) o dX8_post_44 (by decide) ?_
        refine z_iload_n (j := 0) o dX8_post_45 rfl ?_
        refine z_iadd o dX8_post_46 ?_
        refine zo_rw (y := nI (5 + (sp_np (M 83) fa))) (zn_add (rfl) (rfl)) ?_
        refine z_iload_n (j := 3) o dX8_post_47 rfl ?_
        refine z_callVv (As := [.int (nI fa), .int (nI (5 + (sp_np (M 83) fa))), .int c]) (n := 3) (st := []) o dX8_post_48 (c_X8_lets hB M N fa (5 + (sp_np (M 83) fa)) c (by omega)) zc_X8_65 (by decide) (i := 82) (by rw [hB]; exact zsh_lt rfl (by decide)) (zg_o rfl (by decide)) rfl rfl rfl (Nat.le_of_ble_eq_true rfl) (fun g17 p18 => ?_)
        cases p18
        rw [show zu M 83 (6 + 13 * fa + (5 + (sp_np (M 83) fa))) c = va_up M 83 (upd (M 83) (6 + 13 * fa + (5 + (sp_np (M 83) fa))) c) from rfl]
        refine z_aload_n (j := 1) o dX8_post_51 rfl ?_
        refine z_iload_n (j := 2) o dX8_post_52 rfl ?_
        refine z_iconst (v := 3) o dX8_post_53 (by decide) ?_
        refine z_iload_n (j := 0) o dX8_post_54 rfl ?_
        refine z_iconst (v := 1) o dX8_post_55 (by decide) ?_
        refine z_iadd o dX8_post_56 ?_
        refine zo_rw (y := nI (sp_np (M 83) fa + 1)) (zn_add (rfl) (rfl)) ?_
        refine z_callVv (As := [.int (nI fa), .int 3, .int (nI (sp_np (M 83) fa + 1))]) (n := 3) (st := []) o dX8_post_57 (c_X8_lets hB (va_up M 83 (upd (M 83) (6 + 13 * fa + (5 + (sp_np (M 83) fa))) c)) N fa 3 (nI (sp_np (M 83) fa + 1)) (by omega)) zc_X8_65 (by decide) (i := 82) (by rw [hB]; exact zsh_lt rfl (by decide)) (zg_o rfl (by decide)) rfl rfl rfl (Nat.le_of_ble_eq_true rfl) (fun g20 p21 => ?_)
        cases p21
        rw [zu_va]
        refine z_iload_n (j := 0) o dX8_post_60 rfl ?_
        refine z_iconst (v := 1) o dX8_post_61 (by decide) ?_
        refine z_iadd o dX8_post_62 ?_
        refine zo_rw (y := nI (sp_np (M 83) fa + 1)) (zn_add (rfl) (rfl)) ?_
        exact kret _ _ _ _ dX8_post_63 ⟨by unfold sq_post; (try rw [zn_nI (n := fa) (by omega)]); rw [if_neg c4, if_neg c11, if_neg c15] <;> (try rfl), by unfold sq_post; (try rw [zn_nI (n := fa) (by omega)]); rw [if_neg c4, if_neg c11, if_neg c15] <;> (try rw [upv_ne (by omega)]) <;> (try rfl)⟩
      · refine z_aload_n (j := 1) o dX8_post_35 rfl ?_
        refine z_ldc (v := (-1000000004)) o dX8_post_36 zk_X8_105 ?_
        refine z_callVi (As := [.int (-1000000004)]) (n := 1) (st := []) o dX8_post_38 (c_X8_error hB M N 4 (by omega)) zc_X8_101 (by decide) (i := 82) (by rw [hB]; exact zsh_lt rfl (by decide)) (zg_o rfl (by decide)) rfl rfl rfl (Nat.le_of_ble_eq_true rfl) (fun r22 g23 p24 => ?_)
        obtain ⟨rfl, rfl⟩ := p24
        exact kret _ _ _ _ dX8_post_41 ⟨by unfold sq_post; (try rw [zn_nI (n := fa) (by omega)]); rw [if_neg c4, if_neg c11, if_pos c15] <;> (try rfl), by unfold sq_post; (try rw [zn_nI (n := fa) (by omega)]); rw [if_neg c4, if_neg c11, if_pos c15] <;> (try rw [upv_ne (by omega)]) <;> (try rfl)⟩
    · refine z_aload_n (j := 0) o dX8_post_15 rfl ?_
      refine z_ldc (v := (-1000000001)) o dX8_post_16 zk_X8_100 ?_
      refine z_callVi (As := [.int (-1000000001)]) (n := 1) (st := []) o dX8_post_18 (c_X8_error hB M N 1 (by omega)) zc_X8_101 (by decide) (i := 82) (by rw [hB]; exact zsh_lt rfl (by decide)) (zg_o rfl (by decide)) rfl rfl rfl (Nat.le_of_ble_eq_true rfl) (fun r25 g26 p27 => ?_)
      obtain ⟨rfl, rfl⟩ := p27
      exact kret _ _ _ _ dX8_post_21 ⟨by unfold sq_post; (try rw [zn_nI (n := fa) (by omega)]); rw [if_neg c4, if_pos c11] <;> (try rfl), by unfold sq_post; (try rw [zn_nI (n := fa) (by omega)]); rw [if_neg c4, if_pos c11] <;> (try rw [upv_ne (by omega)]) <;> (try rfl)⟩

def sq_cut (M : zM) (f : Int32) : Int32 × zM :=
  if zin f 0 (M 83 2 - 1) = 0 then (zE 1, zEr M 1) else if nI (sp_np (M 83) (zn f)) = 0 then (zE 3, zEr M 3) else
  (nI (sp_np (M 83) (zn f)) - 1, va_up M 83 (upd (M 83) (6 + 13 * zn f + 3) (nI (sp_np (M 83) (zn f)) - 1)))
set_option maxHeartbeats 4000000 in
set_option maxRecDepth 100000 in
theorem c_X8_cut {B : zB} (hB : znn B = 95) (M : zM) (N : zN) (f : Int32) (hok : zOkAll (M 83)) : zCi B (zg B M N) yX8_cut cX8_cut 3 (some .int) 5 [zref B 82, .int f] (fun r g' => g' = zg B (sq_cut M f).2 N ∧ r = (sq_cut M f).1) := by
  refine zCi_of (by decide +kernel) (Nat.le_of_ble_eq_true rfl) .int rfl (fun _ _ _ => rfl) ?_
  intro X o kret
  show zW X B (zg B M N) 0 [(0, zref B 82), (1, .int f)] []
  obtain ⟨hnf, hnf4⟩ := ok_nf2 hok.1
  obtain ⟨hnc, hnc6⟩ := ok_nc2 hok.1
  refine z_aload_n (j := 0) o dX8_cut_0 rfl ?_
  refine z_iload_n (j := 1) o dX8_cut_1 rfl ?_
  refine z_callVi (As := [.int f]) (n := 1) (st := []) o dX8_cut_2 (c_X8_isFence hB M N f) zc_X8_106 (by decide) (i := 82) (by rw [hB]; exact zsh_lt rfl (by decide)) (zg_o rfl (by decide)) rfl rfl rfl (Nat.le_of_ble_eq_true rfl) (fun r1 g2 p3 => ?_)
  obtain ⟨rfl, rfl⟩ := p3
  refine z_ifne (tgt := 15) o dX8_cut_5 (by decide) (fun c4 => ?_) (fun c4 => ?_)
  · have hzf := c4
    rw [hnf] at hzf
    obtain ⟨fa, hfa, efa⟩ := zin_nat (by omega) hzf
    subst efa
    obtain ⟨hnp, hnp8⟩ := ok_np2 hok.1 (i := fa) (by omega)
    refine z_aload_n (j := 0) o dX8_cut_15 rfl ?_
    refine z_iload_n (j := 1) o dX8_cut_16 rfl ?_
    refine z_iconst (v := 3) o dX8_cut_17 (by decide) ?_
    refine z_callVi (As := [.int (nI fa), .int 3]) (n := 2) (st := []) o dX8_cut_18 (c_X8_of hB M N fa 3 (by omega)) zc_X8_55 (by decide) (i := 82) (by rw [hB]; exact zsh_lt rfl (by decide)) (zg_o rfl (by decide)) rfl rfl rfl (Nat.le_of_ble_eq_true rfl) (fun r5 g6 p7 => ?_)
    obtain ⟨rfl, rfl⟩ := p7
    refine zo_rw (y := nI (sp_np (M 83) fa)) (hnp) ?_
    refine z_istore_n (i := 2) (lv2 := [(2, .int (nI (sp_np (M 83) fa))), (0, zref B 82), (1, .int (nI fa))]) o dX8_cut_21 rfl (by decide) rfl ?_
    refine z_iload_n (j := 0) o dX8_cut_22 rfl ?_
    refine z_ifne (tgt := 33) o dX8_cut_23 (by decide) (fun c8 => ?_) (fun c8 => ?_)
    · refine z_aload_n (j := 1) o dX8_cut_33 rfl ?_
      refine z_iload_n (j := 2) o dX8_cut_34 rfl ?_
      refine z_iconst (v := 3) o dX8_cut_35 (by decide) ?_
      refine z_iload_n (j := 0) o dX8_cut_36 rfl ?_
      refine z_iconst (v := 1) o dX8_cut_37 (by decide) ?_
      refine z_isub o dX8_cut_38 ?_
      refine z_callVv (As := [.int (nI fa), .int 3, .int ((nI (sp_np (M 83) fa)) - 1)]) (n := 3) (st := []) o dX8_cut_39 (c_X8_lets hB M N fa 3 ((nI (sp_np (M 83) fa)) - 1) (by omega)) zc_X8_65 (by decide) (i := 82) (by rw [hB]; exact zsh_lt rfl (by decide)) (zg_o rfl (by decide)) rfl rfl rfl (Nat.le_of_ble_eq_true rfl) (fun g10 p11 => ?_)
      cases p11
      rw [show zu M 83 (6 + 13 * fa + 3) ((nI (sp_np (M 83) fa)) - 1) = va_up M 83 (upd (M 83) (6 + 13 * fa + 3) ((nI (sp_np (M 83) fa)) - 1)) from rfl]
      refine z_iload_n (j := 0) o dX8_cut_42 rfl ?_
      refine z_iconst (v := 1) o dX8_cut_43 (by decide) ?_
      refine z_isub o dX8_cut_44 ?_
      exact kret _ _ _ _ dX8_cut_45 ⟨by unfold sq_cut; (try rw [zn_nI (n := fa) (by omega)]); rw [if_neg c4, if_neg c8] <;> (try rfl), by unfold sq_cut; (try rw [zn_nI (n := fa) (by omega)]); rw [if_neg c4, if_neg c8] <;> (try rw [upv_ne (by omega)]) <;> (try rfl)⟩
    · refine z_aload_n (j := 1) o dX8_cut_26 rfl ?_
      refine z_ldc (v := (-1000000003)) o dX8_cut_27 zk_X8_123 ?_
      refine z_callVi (As := [.int (-1000000003)]) (n := 1) (st := []) o dX8_cut_29 (c_X8_error hB M N 3 (by omega)) zc_X8_101 (by decide) (i := 82) (by rw [hB]; exact zsh_lt rfl (by decide)) (zg_o rfl (by decide)) rfl rfl rfl (Nat.le_of_ble_eq_true rfl) (fun r12 g13 p14 => ?_)
      obtain ⟨rfl, rfl⟩ := p14
      exact kret _ _ _ _ dX8_cut_32 ⟨by unfold sq_cut; (try rw [zn_nI (n := fa) (by omega)]); rw [if_neg c4, if_pos c8] <;> (try rfl), by unfold sq_cut; (try rw [zn_nI (n := fa) (by omega)]); rw [if_neg c4, if_pos c8] <;> (try rw [upv_ne (by omega)]) <;> (try rfl)⟩
  · refine z_aload_n (j := 0) o dX8_cut_8 rfl ?_
    refine z_ldc (v := (-1000000001)) o dX8_cut_9 zk_X8_100 ?_
    refine z_callVi (As := [.int (-1000000001)]) (n := 1) (st := []) o dX8_cut_11 (c_X8_error hB M N 1 (by omega)) zc_X8_101 (by decide) (i := 82) (by rw [hB]; exact zsh_lt rfl (by decide)) (zg_o rfl (by decide)) rfl rfl rfl (Nat.le_of_ble_eq_true rfl) (fun r15 g16 p17 => ?_)
    obtain ⟨rfl, rfl⟩ := p17
    exact kret _ _ _ _ dX8_cut_14 ⟨by unfold sq_cut;  rw [if_pos c4] <;> (try rfl), by unfold sq_cut;  rw [if_pos c4] <;> (try rw [upv_ne (by omega)]) <;> (try rfl)⟩

def sq_lay (M : zM) (w : Int32) (c : Int32) (is : Int32) : Int32 × zM :=
  if zin w 0 1 = 0 then (zE 1, zEr M 1) else if zin c 0 63 = 0 then (zE 1, zEr M 1) else if zin is 0 1 = 0 then (zE 1, zEr M 1) else
  if w = 0 then (M 83 (70 + zn c), va_up M 83 (upd (M 83) (70 + zn c) is)) else (M 83 (134 + zn c), va_up M 83 (upd (M 83) (134 + zn c) is))
set_option maxHeartbeats 4000000 in
set_option maxRecDepth 100000 in
theorem c_X8_lay {B : zB} (hB : znn B = 95) (M : zM) (N : zN) (w : Int32) (c : Int32) (is : Int32) (hok : zOkAll (M 83)) : zCi B (zg B M N) yX8_lay cX8_lay 5 (some .int) 5 [zref B 82, .int w, .int c, .int is] (fun r g' => g' = zg B (sq_lay M w c is).2 N ∧ r = (sq_lay M w c is).1) := by
  refine zCi_of (by decide +kernel) (Nat.le_of_ble_eq_true rfl) .int rfl (fun _ _ _ => rfl) ?_
  intro X o kret
  show zW X B (zg B M N) 0 [(0, zref B 82), (1, .int w), (2, .int c), (3, .int is)] []
  obtain ⟨hnf, hnf4⟩ := ok_nf2 hok.1
  obtain ⟨hnc, hnc6⟩ := ok_nc2 hok.1
  refine z_iload_n (j := 1) o dX8_lay_0 rfl ?_
  refine z_iconst (v := 0) o dX8_lay_1 (by decide) ?_
  refine z_iconst (v := 1) o dX8_lay_2 (by decide) ?_
  refine z_callSi (As := [.int w, .int 0, .int 1]) (n := 3) (st := []) o dX8_lay_3 (c_X8_in hB M N w 0 1) zc_X8_51 (by decide) rfl rfl (Nat.le_of_ble_eq_true rfl) (fun r1 g2 p3 => ?_)
  obtain ⟨rfl, rfl⟩ := p3
  refine z_ifeq (tgt := 29) o dX8_lay_6 (by decide) (fun c4 => ?_) (fun c4 => ?_)
  · refine z_iconst (v := 0) o dX8_lay_29 (by decide) ?_
    refine z_istore (i := 4) (lv2 := [(4, .int 0), (0, zref B 82), (1, .int w), (2, .int c), (3, .int is)]) o dX8_lay_30 (by decide) rfl ?_
    refine z_iload (j := 0) o dX8_lay_32 rfl ?_
    refine z_ifeq (tgt := 59) o dX8_lay_34 (by decide) (fun c5 => ?_) (fun c5 => ?_)
    · refine z_aload_n (j := 1) o dX8_lay_59 rfl ?_
      refine z_ldc (v := (-1000000001)) o dX8_lay_60 zk_X8_100 ?_
      refine z_callVi (As := [.int (-1000000001)]) (n := 1) (st := []) o dX8_lay_62 (c_X8_error hB M N 1 (by omega)) zc_X8_101 (by decide) (i := 82) (by rw [hB]; exact zsh_lt rfl (by decide)) (zg_o rfl (by decide)) rfl rfl rfl (Nat.le_of_ble_eq_true rfl) (fun r6 g7 p8 => ?_)
      obtain ⟨rfl, rfl⟩ := p8
      exact kret _ _ _ _ dX8_lay_65 ⟨by unfold sq_lay;  rw [if_pos c4] <;> (try rfl), by unfold sq_lay;  rw [if_pos c4] <;> (try rw [upv_ne (by omega)]) <;> (try rfl)⟩
    · exact absurd c5 (by decide)
  · refine z_iload_n (j := 2) o dX8_lay_9 rfl ?_
    refine z_callSi (As := [.int c]) (n := 1) (st := []) o dX8_lay_10 (c_X8_isCell hB M N c) zc_X8_109 (by decide) rfl rfl (Nat.le_of_ble_eq_true rfl) (fun r9 g10 p11 => ?_)
    obtain ⟨rfl, rfl⟩ := p11
    refine z_ifeq (tgt := 29) o dX8_lay_13 (by decide) (fun c12 => ?_) (fun c12 => ?_)
    · refine z_iconst (v := 0) o dX8_lay_29 (by decide) ?_
      refine z_istore (i := 4) (lv2 := [(4, .int 0), (0, zref B 82), (1, .int w), (2, .int c), (3, .int is)]) o dX8_lay_30 (by decide) rfl ?_
      refine z_iload (j := 0) o dX8_lay_32 rfl ?_
      refine z_ifeq (tgt := 59) o dX8_lay_34 (by decide) (fun c13 => ?_) (fun c13 => ?_)
      · refine z_aload_n (j := 1) o dX8_lay_59 rfl ?_
        refine z_ldc (v := (-1000000001)) o dX8_lay_60 zk_X8_100 ?_
        refine z_callVi (As := [.int (-1000000001)]) (n := 1) (st := []) o dX8_lay_62 (c_X8_error hB M N 1 (by omega)) zc_X8_101 (by decide) (i := 82) (by rw [hB]; exact zsh_lt rfl (by decide)) (zg_o rfl (by decide)) rfl rfl rfl (Nat.le_of_ble_eq_true rfl) (fun r14 g15 p16 => ?_)
        obtain ⟨rfl, rfl⟩ := p16
        exact kret _ _ _ _ dX8_lay_65 ⟨by unfold sq_lay;  rw [if_neg c4, if_pos c12] <;> (try rfl), by unfold sq_lay;  rw [if_neg c4, if_pos c12] <;> (try rw [upv_ne (by omega)]) <;> (try rfl)⟩
      · exact absurd c13 (by decide)
    · obtain ⟨ca, hca, eca⟩ := zin_lit (n := 63) rfl (by decide) c12
      subst eca
      refine z_iload_n (j := 3) o dX8_lay_16 rfl ?_
      refine z_iconst (v := 0) o dX8_lay_17 (by decide) ?_
      refine z_iconst (v := 1) o dX8_lay_18 (by decide) ?_
      refine z_callSi (As := [.int is, .int 0, .int 1]) (n := 3) (st := []) o dX8_lay_19 (c_X8_in hB M N is 0 1) zc_X8_51 (by decide) rfl rfl (Nat.le_of_ble_eq_true rfl) (fun r17 g18 p19 => ?_)
      obtain ⟨rfl, rfl⟩ := p19
      refine z_ifeq (tgt := 29) o dX8_lay_22 (by decide) (fun c20 => ?_) (fun c20 => ?_)
      · refine z_iconst (v := 0) o dX8_lay_29 (by decide) ?_
        refine z_istore (i := 4) (lv2 := [(4, .int 0), (0, zref B 82), (1, .int w), (2, .int (nI ca)), (3, .int is)]) o dX8_lay_30 (by decide) rfl ?_
        refine z_iload (j := 0) o dX8_lay_32 rfl ?_
        refine z_ifeq (tgt := 59) o dX8_lay_34 (by decide) (fun c21 => ?_) (fun c21 => ?_)
        · refine z_aload_n (j := 1) o dX8_lay_59 rfl ?_
          refine z_ldc (v := (-1000000001)) o dX8_lay_60 zk_X8_100 ?_
          refine z_callVi (As := [.int (-1000000001)]) (n := 1) (st := []) o dX8_lay_62 (c_X8_error hB M N 1 (by omega)) zc_X8_101 (by decide) (i := 82) (by rw [hB]; exact zsh_lt rfl (by decide)) (zg_o rfl (by decide)) rfl rfl rfl (Nat.le_of_ble_eq_true rfl) (fun r22 g23 p24 => ?_)
          obtain ⟨rfl, rfl⟩ := p24
          exact kret _ _ _ _ dX8_lay_65 ⟨by unfold sq_lay; (try rw [zn_nI (n := ca) (by omega)]); rw [if_neg c4, if_neg c12, if_pos c20] <;> (try rfl), by unfold sq_lay; (try rw [zn_nI (n := ca) (by omega)]); rw [if_neg c4, if_neg c12, if_pos c20] <;> (try rw [upv_ne (by omega)]) <;> (try rfl)⟩
        · exact absurd c21 (by decide)
      · refine z_iconst (v := 1) o dX8_lay_25 (by decide) ?_
        refine z_goto (tgt := 30) o dX8_lay_26 (by decide) ?_
        refine z_istore (i := 4) (lv2 := [(4, .int 1), (0, zref B 82), (1, .int w), (2, .int (nI ca)), (3, .int is)]) o dX8_lay_30 (by decide) rfl ?_
        refine z_iload (j := 0) o dX8_lay_32 rfl ?_
        refine z_ifeq (tgt := 59) o dX8_lay_34 (by decide) (fun c25 => ?_) (fun c25 => ?_)
        · exact absurd c25 (by decide)
        · refine z_aload_n (j := 1) o dX8_lay_37 rfl ?_
          refine z_iload_n (j := 2) o dX8_lay_38 rfl ?_
          refine z_ifne (tgt := 47) o dX8_lay_39 (by decide) (fun c26 => ?_) (fun c26 => ?_)
          · refine z_sipush (v := 134) o dX8_lay_47 (by decide) ?_
            refine z_iload_n (j := 3) o dX8_lay_50 rfl ?_
            refine z_iadd o dX8_lay_51 ?_
            refine zo_rw (y := nI (134 + ca)) (zn_add (rfl) (rfl)) ?_
            refine z_iload_n (j := 4) o dX8_lay_52 rfl ?_
            refine z_callVi (As := [.int (nI (134 + ca)), .int is]) (n := 2) (st := []) o dX8_lay_53 (c_X8_becomes hB M N (134 + ca) is (by omega)) zc_X8_119 (by decide) (i := 82) (by rw [hB]; exact zsh_lt rfl (by decide)) (zg_o rfl (by decide)) rfl rfl rfl (Nat.le_of_ble_eq_true rfl) (fun r27 g28 p29 => ?_)
            obtain ⟨rfl, rfl⟩ := p29
            rw [show zu M 83 (134 + ca) is = va_up M 83 (upd (M 83) (134 + ca) is) from rfl]
            refine z_goto (tgt := 65) o dX8_lay_56 (by decide) ?_
            exact kret _ _ _ _ dX8_lay_65 ⟨by unfold sq_lay; (try rw [zn_nI (n := ca) (by omega)]); rw [if_neg c4, if_neg c12, if_neg c20, if_neg c26] <;> (try rfl), by unfold sq_lay; (try rw [zn_nI (n := ca) (by omega)]); rw [if_neg c4, if_neg c12, if_neg c20, if_neg c26] <;> (try rw [upv_ne (by omega)]) <;> (try rfl)⟩
          · refine z_bipush (v := 70) o dX8_lay_42 (by decide) ?_
            refine z_goto (tgt := 50) o dX8_lay_44 (by decide) ?_
            refine z_iload_n (j := 3) o dX8_lay_50 rfl ?_
            refine z_iadd o dX8_lay_51 ?_
            refine zo_rw (y := nI (70 + ca)) (zn_add (rfl) (rfl)) ?_
            refine z_iload_n (j := 4) o dX8_lay_52 rfl ?_
            refine z_callVi (As := [.int (nI (70 + ca)), .int is]) (n := 2) (st := []) o dX8_lay_53 (c_X8_becomes hB M N (70 + ca) is (by omega)) zc_X8_119 (by decide) (i := 82) (by rw [hB]; exact zsh_lt rfl (by decide)) (zg_o rfl (by decide)) rfl rfl rfl (Nat.le_of_ble_eq_true rfl) (fun r30 g31 p32 => ?_)
            obtain ⟨rfl, rfl⟩ := p32
            rw [show zu M 83 (70 + ca) is = va_up M 83 (upd (M 83) (70 + ca) is) from rfl]
            refine z_goto (tgt := 65) o dX8_lay_56 (by decide) ?_
            exact kret _ _ _ _ dX8_lay_65 ⟨by unfold sq_lay; (try rw [zn_nI (n := ca) (by omega)]); rw [if_neg c4, if_neg c12, if_neg c20, if_pos c26] <;> (try rfl), by unfold sq_lay; (try rw [zn_nI (n := ca) (by omega)]); rw [if_neg c4, if_neg c12, if_neg c20, if_pos c26] <;> (try rw [upv_ne (by omega)]) <;> (try rfl)⟩

def sq_cow (M : zM) (c : Int32) : Int32 × zM :=
  if zin c 0 63 = 0 then (zE 1, zEr M 1) else if nI (sp_nc (M 83)) = 6 then (zE 4, zEr M 4) else
  (nI (sp_nc (M 83)), va_up M 83 (upd (upd (upd (M 83) 3 (nI (sp_nc (M 83) + 1))) (58 + 2 * sp_nc (M 83)) c) (58 + 2 * sp_nc (M 83) + 1) 0))
set_option maxHeartbeats 4000000 in
set_option maxRecDepth 100000 in
theorem c_X8_cow {B : zB} (hB : znn B = 95) (M : zM) (N : zN) (c : Int32) (hok : zOkAll (M 83)) : zCi B (zg B M N) yX8_cow cX8_cow 3 (some .int) 5 [zref B 82, .int c] (fun r g' => g' = zg B (sq_cow M c).2 N ∧ r = (sq_cow M c).1) := by
  refine zCi_of (by decide +kernel) (Nat.le_of_ble_eq_true rfl) .int rfl (fun _ _ _ => rfl) ?_
  intro X o kret
  show zW X B (zg B M N) 0 [(0, zref B 82), (1, .int c)] []
  obtain ⟨hnf, hnf4⟩ := ok_nf2 hok.1
  obtain ⟨hnc, hnc6⟩ := ok_nc2 hok.1
  refine z_iload_n (j := 1) o dX8_cow_0 rfl ?_
  refine z_callSi (As := [.int c]) (n := 1) (st := []) o dX8_cow_1 (c_X8_isCell hB M N c) zc_X8_109 (by decide) rfl rfl (Nat.le_of_ble_eq_true rfl) (fun r1 g2 p3 => ?_)
  obtain ⟨rfl, rfl⟩ := p3
  refine z_ifne (tgt := 14) o dX8_cow_4 (by decide) (fun c4 => ?_) (fun c4 => ?_)
  · refine z_aload_n (j := 0) o dX8_cow_14 rfl ?_
    refine zo_get (i := 82) o hB dX8_cow_15 zf_X8_9 rfl (by decide) rfl ?_
    refine z_iconst (v := 3) o dX8_cow_18 (by decide) ?_
    refine zo_iald (i := 83) (j := 3) o hB dX8_cow_19 rfl (show 3 < 524 by omega) (by decide) ?_
    refine zo_rw (y := nI (sp_nc (M 83))) (hnc) ?_
    refine z_istore_n (i := 2) (lv2 := [(2, .int (nI (sp_nc (M 83)))), (0, zref B 82), (1, .int c)]) o dX8_cow_20 rfl (by decide) rfl ?_
    refine z_iload_n (j := 0) o dX8_cow_21 rfl ?_
    refine z_bipush (v := 6) o dX8_cow_22 (by decide) ?_
    refine z_icmpne (tgt := 34) o dX8_cow_24 (by decide) (fun c5 => ?_) (fun c5 => ?_)
    · refine z_aload_n (j := 1) o dX8_cow_34 rfl ?_
      refine zo_get (i := 82) o hB dX8_cow_35 zf_X8_9 rfl (by decide) rfl ?_
      refine z_iconst (v := 3) o dX8_cow_38 (by decide) ?_
      refine z_dup2 o dX8_cow_39 rfl rfl ?_
      refine zo_iald (i := 83) (j := 3) o hB dX8_cow_40 rfl (show 3 < 524 by omega) (by decide) ?_
      refine zo_rw (y := nI (sp_nc (M 83))) (hnc) ?_
      refine z_iconst (v := 1) o dX8_cow_41 (by decide) ?_
      refine z_iadd o dX8_cow_42 ?_
      refine zo_rw (y := nI (sp_nc (M 83) + 1)) (zn_add (rfl) (rfl)) ?_
      refine zo_iast (i := 83) (j := 3) o hB dX8_cow_43 rfl (show 3 < 524 by omega) (by decide) ?_
      rw [show zu M 83 3 (nI (sp_nc (M 83) + 1)) = va_up M 83 (upd (M 83) 3 (nI (sp_nc (M 83) + 1))) from rfl]
      refine z_aload_n (j := 1) o dX8_cow_44 rfl ?_
      refine zo_get (i := 82) o hB dX8_cow_45 zf_X8_9 rfl (by decide) rfl ?_
      refine z_bipush (v := 58) o dX8_cow_48 (by decide) ?_
      refine z_iconst (v := 2) o dX8_cow_50 (by decide) ?_
      refine z_iload_n (j := 0) o dX8_cow_51 rfl ?_
      refine z_imul o dX8_cow_52 ?_
      refine zo_rw (y := nI (2 * (sp_nc (M 83)))) (zn_mul (rfl) (rfl)) ?_
      refine z_iadd o dX8_cow_53 ?_
      refine zo_rw (y := nI (58 + 2 * (sp_nc (M 83)))) (zn_add (rfl) (rfl)) ?_
      refine z_iload_n (j := 2) o dX8_cow_54 rfl ?_
      refine zo_iast (i := 83) (j := 58 + 2 * (sp_nc (M 83))) o hB dX8_cow_55 rfl (show 58 + 2 * (sp_nc (M 83)) < 524 by omega) (by decide) ?_
      rw [zu_va]
      refine z_aload_n (j := 1) o dX8_cow_56 rfl ?_
      refine zo_get (i := 82) o hB dX8_cow_57 zf_X8_9 rfl (by decide) rfl ?_
      refine z_bipush (v := 58) o dX8_cow_60 (by decide) ?_
      refine z_iconst (v := 2) o dX8_cow_62 (by decide) ?_
      refine z_iload_n (j := 0) o dX8_cow_63 rfl ?_
      refine z_imul o dX8_cow_64 ?_
      refine zo_rw (y := nI (2 * (sp_nc (M 83)))) (zn_mul (rfl) (rfl)) ?_
      refine z_iadd o dX8_cow_65 ?_
      refine zo_rw (y := nI (58 + 2 * (sp_nc (M 83)))) (zn_add (rfl) (rfl)) ?_
      refine z_iconst (v := 1) o dX8_cow_66 (by decide) ?_
      refine z_iadd o dX8_cow_67 ?_
      refine zo_rw (y := nI (58 + 2 * (sp_nc (M 83)) + 1)) (zn_add (rfl) (rfl)) ?_
      refine z_iconst (v := 0) o dX8_cow_68 (by decide) ?_
      refine zo_iast (i := 83) (j := 58 + 2 * (sp_nc (M 83)) + 1) o hB dX8_cow_69 rfl (show 58 + 2 * (sp_nc (M 83)) + 1 < 524 by omega) (by decide) ?_
      rw [zu_va]
      refine z_iload_n (j := 0) o dX8_cow_70 rfl ?_
      exact kret _ _ _ _ dX8_cow_71 ⟨by unfold sq_cow;  rw [if_neg c4, if_neg c5] <;> (try rfl), by unfold sq_cow;  rw [if_neg c4, if_neg c5] <;> (try rw [upv_ne (by omega)]) <;> (try rfl)⟩
    · refine z_aload_n (j := 1) o dX8_cow_27 rfl ?_
      refine z_ldc (v := (-1000000004)) o dX8_cow_28 zk_X8_105 ?_
      refine z_callVi (As := [.int (-1000000004)]) (n := 1) (st := []) o dX8_cow_30 (c_X8_error hB M N 4 (by omega)) zc_X8_101 (by decide) (i := 82) (by rw [hB]; exact zsh_lt rfl (by decide)) (zg_o rfl (by decide)) rfl rfl rfl (Nat.le_of_ble_eq_true rfl) (fun r6 g7 p8 => ?_)
      obtain ⟨rfl, rfl⟩ := p8
      exact kret _ _ _ _ dX8_cow_33 ⟨by unfold sq_cow;  rw [if_neg c4, if_pos c5] <;> (try rfl), by unfold sq_cow;  rw [if_neg c4, if_pos c5] <;> (try rw [upv_ne (by omega)]) <;> (try rfl)⟩
  · refine z_aload_n (j := 0) o dX8_cow_7 rfl ?_
    refine z_ldc (v := (-1000000001)) o dX8_cow_8 zk_X8_100 ?_
    refine z_callVi (As := [.int (-1000000001)]) (n := 1) (st := []) o dX8_cow_10 (c_X8_error hB M N 1 (by omega)) zc_X8_101 (by decide) (i := 82) (by rw [hB]; exact zsh_lt rfl (by decide)) (zg_o rfl (by decide)) rfl rfl rfl (Nat.le_of_ble_eq_true rfl) (fun r9 g10 p11 => ?_)
    obtain ⟨rfl, rfl⟩ := p11
    exact kret _ _ _ _ dX8_cow_13 ⟨by unfold sq_cow;  rw [if_pos c4] <;> (try rfl), by unfold sq_cow;  rw [if_pos c4] <;> (try rw [upv_ne (by omega)]) <;> (try rfl)⟩

def sq_drive (M : zM) (w : Int32) (c : Int32) : Int32 × zM :=
  if zin w 0 (M 83 3 - 1) = 0 then (zE 1, zEr M 1) else if zin c 0 63 = 0 then (zE 1, zEr M 1) else (M 83 (58 + 2 * zn w), va_up M 83 (upd (M 83) (58 + 2 * zn w) c))
set_option maxHeartbeats 4000000 in
set_option maxRecDepth 100000 in
theorem c_X8_drive {B : zB} (hB : znn B = 95) (M : zM) (N : zN) (w : Int32) (c : Int32) (hok : zOkAll (M 83)) : zCi B (zg B M N) yX8_drive cX8_drive 3 (some .int) 5 [zref B 82, .int w, .int c] (fun r g' => g' = zg B (sq_drive M w c).2 N ∧ r = (sq_drive M w c).1) := by
  refine zCi_of (by decide +kernel) (Nat.le_of_ble_eq_true rfl) .int rfl (fun _ _ _ => rfl) ?_
  intro X o kret
  show zW X B (zg B M N) 0 [(0, zref B 82), (1, .int w), (2, .int c)] []
  obtain ⟨hnf, hnf4⟩ := ok_nf2 hok.1
  obtain ⟨hnc, hnc6⟩ := ok_nc2 hok.1
  refine z_aload_n (j := 0) o dX8_drive_0 rfl ?_
  refine z_iload_n (j := 1) o dX8_drive_1 rfl ?_
  refine z_callVi (As := [.int w]) (n := 1) (st := []) o dX8_drive_2 (c_X8_isCow hB M N w) zc_X8_124 (by decide) (i := 82) (by rw [hB]; exact zsh_lt rfl (by decide)) (zg_o rfl (by decide)) rfl rfl rfl (Nat.le_of_ble_eq_true rfl) (fun r1 g2 p3 => ?_)
  obtain ⟨rfl, rfl⟩ := p3
  refine z_ifeq (tgt := 29) o dX8_drive_5 (by decide) (fun c4 => ?_) (fun c4 => ?_)
  · refine z_aload_n (j := 0) o dX8_drive_29 rfl ?_
    refine z_ldc (v := (-1000000001)) o dX8_drive_30 zk_X8_100 ?_
    refine z_callVi (As := [.int (-1000000001)]) (n := 1) (st := []) o dX8_drive_32 (c_X8_error hB M N 1 (by omega)) zc_X8_101 (by decide) (i := 82) (by rw [hB]; exact zsh_lt rfl (by decide)) (zg_o rfl (by decide)) rfl rfl rfl (Nat.le_of_ble_eq_true rfl) (fun r5 g6 p7 => ?_)
    obtain ⟨rfl, rfl⟩ := p7
    exact kret _ _ _ _ dX8_drive_35 ⟨by unfold sq_drive;  rw [if_pos c4] <;> (try rfl), by unfold sq_drive;  rw [if_pos c4] <;> (try rw [upv_ne (by omega)]) <;> (try rfl)⟩
  · have hzw := c4
    rw [hnc] at hzw
    obtain ⟨wa, hwa, ewa⟩ := zin_nat (by omega) hzw
    subst ewa
    refine z_iload_n (j := 2) o dX8_drive_8 rfl ?_
    refine z_callSi (As := [.int c]) (n := 1) (st := []) o dX8_drive_9 (c_X8_isCell hB M N c) zc_X8_109 (by decide) rfl rfl (Nat.le_of_ble_eq_true rfl) (fun r8 g9 p10 => ?_)
    obtain ⟨rfl, rfl⟩ := p10
    refine z_ifeq (tgt := 29) o dX8_drive_12 (by decide) (fun c11 => ?_) (fun c11 => ?_)
    · refine z_aload_n (j := 0) o dX8_drive_29 rfl ?_
      refine z_ldc (v := (-1000000001)) o dX8_drive_30 zk_X8_100 ?_
      refine z_callVi (As := [.int (-1000000001)]) (n := 1) (st := []) o dX8_drive_32 (c_X8_error hB M N 1 (by omega)) zc_X8_101 (by decide) (i := 82) (by rw [hB]; exact zsh_lt rfl (by decide)) (zg_o rfl (by decide)) rfl rfl rfl (Nat.le_of_ble_eq_true rfl) (fun r12 g13 p14 => ?_)
      obtain ⟨rfl, rfl⟩ := p14
      exact kret _ _ _ _ dX8_drive_35 ⟨by unfold sq_drive; (try rw [zn_nI (n := wa) (by omega)]); rw [if_neg c4, if_pos c11] <;> (try rfl), by unfold sq_drive; (try rw [zn_nI (n := wa) (by omega)]); rw [if_neg c4, if_pos c11] <;> (try rw [upv_ne (by omega)]) <;> (try rfl)⟩
    · refine z_aload_n (j := 0) o dX8_drive_15 rfl ?_
      refine z_bipush (v := 58) o dX8_drive_16 (by decide) ?_
      refine z_iconst (v := 2) o dX8_drive_18 (by decide) ?_
      refine z_iload_n (j := 1) o dX8_drive_19 rfl ?_
      refine z_imul o dX8_drive_20 ?_
      refine zo_rw (y := nI (2 * wa)) (zn_mul (rfl) (rfl)) ?_
      refine z_iadd o dX8_drive_21 ?_
      refine zo_rw (y := nI (58 + 2 * wa)) (zn_add (rfl) (rfl)) ?_
      refine z_iload_n (j := 2) o dX8_drive_22 rfl ?_
      refine z_callVi (As := [.int (nI (58 + 2 * wa)), .int c]) (n := 2) (st := []) o dX8_drive_23 (c_X8_becomes hB M N (58 + 2 * wa) c (by omega)) zc_X8_119 (by decide) (i := 82) (by rw [hB]; exact zsh_lt rfl (by decide)) (zg_o rfl (by decide)) rfl rfl rfl (Nat.le_of_ble_eq_true rfl) (fun r15 g16 p17 => ?_)
      obtain ⟨rfl, rfl⟩ := p17
      rw [show zu M 83 (58 + 2 * wa) c = va_up M 83 (upd (M 83) (58 + 2 * wa) c) from rfl]
      refine z_goto (tgt := 35) o dX8_drive_26 (by decide) ?_
      exact kret _ _ _ _ dX8_drive_35 ⟨by unfold sq_drive; (try rw [zn_nI (n := wa) (by omega)]); rw [if_neg c4, if_neg c11] <;> (try rfl), by unfold sq_drive; (try rw [zn_nI (n := wa) (by omega)]); rw [if_neg c4, if_neg c11] <;> (try rw [upv_ne (by omega)]) <;> (try rfl)⟩

def sq_untell (M : zM) (u : Int32) : Int32 × zM :=
  if zin u 0 1 = 0 then (zE 1, zEr M 1) else if 0 < M 83 (282 + 121 * zn u) then (1, va_up M 83 (upd (M 83) (282 + 121 * zn u) 0)) else (0, va_up M 83 (upd (M 83) (282 + 121 * zn u) 0))
set_option maxHeartbeats 4000000 in
set_option maxRecDepth 100000 in
theorem c_X8_untell {B : zB} (hB : znn B = 95) (M : zM) (N : zN) (u : Int32) (hok : zOkAll (M 83)) : zCi B (zg B M N) yX8_untell cX8_untell 2 (some .int) 5 [zref B 82, .int u] (fun r g' => g' = zg B (sq_untell M u).2 N ∧ r = (sq_untell M u).1) := by
  refine zCi_of (by decide +kernel) (Nat.le_of_ble_eq_true rfl) .int rfl (fun _ _ _ => rfl) ?_
  intro X o kret
  show zW X B (zg B M N) 0 [(0, zref B 82), (1, .int u)] []
  obtain ⟨hnf, hnf4⟩ := ok_nf2 hok.1
  obtain ⟨hnc, hnc6⟩ := ok_nc2 hok.1
  refine z_iload_n (j := 1) o dX8_untell_0 rfl ?_
  refine z_iconst (v := 0) o dX8_untell_1 (by decide) ?_
  refine z_iconst (v := 1) o dX8_untell_2 (by decide) ?_
  refine z_callSi (As := [.int u, .int 0, .int 1]) (n := 3) (st := []) o dX8_untell_3 (c_X8_in hB M N u 0 1) zc_X8_51 (by decide) rfl rfl (Nat.le_of_ble_eq_true rfl) (fun r1 g2 p3 => ?_)
  obtain ⟨rfl, rfl⟩ := p3
  refine z_ifne (tgt := 16) o dX8_untell_6 (by decide) (fun c4 => ?_) (fun c4 => ?_)
  · obtain ⟨ua, hua, eua⟩ := zin_lit (n := 1) rfl (by decide) c4
    subst eua
    refine z_aload_n (j := 0) o dX8_untell_16 rfl ?_
    refine z_sipush (v := 282) o dX8_untell_17 (by decide) ?_
    refine z_bipush (v := 121) o dX8_untell_20 (by decide) ?_
    refine z_iload_n (j := 1) o dX8_untell_22 rfl ?_
    refine z_imul o dX8_untell_23 ?_
    refine zo_rw (y := nI (121 * ua)) (zn_mul (rfl) (rfl)) ?_
    refine z_iadd o dX8_untell_24 ?_
    refine zo_rw (y := nI (282 + 121 * ua)) (zn_add (rfl) (rfl)) ?_
    refine z_iconst (v := 0) o dX8_untell_25 (by decide) ?_
    refine z_callVi (As := [.int (nI (282 + 121 * ua)), .int 0]) (n := 2) (st := []) o dX8_untell_26 (c_X8_becomes hB M N (282 + 121 * ua) 0 (by omega)) zc_X8_119 (by decide) (i := 82) (by rw [hB]; exact zsh_lt rfl (by decide)) (zg_o rfl (by decide)) rfl rfl rfl (Nat.le_of_ble_eq_true rfl) (fun r5 g6 p7 => ?_)
    obtain ⟨rfl, rfl⟩ := p7
    rw [show zu M 83 (282 + 121 * ua) 0 = va_up M 83 (upd (M 83) (282 + 121 * ua) 0) from rfl]
    refine z_ifle (tgt := 36) o dX8_untell_29 (by decide) (fun c8 => ?_) (fun c8 => ?_)
    · refine z_iconst (v := 0) o dX8_untell_36 (by decide) ?_
      exact kret _ _ _ _ dX8_untell_37 ⟨by unfold sq_untell; (try rw [zn_nI (n := ua) (by omega)]); rw [if_neg c4, if_neg c8] <;> (try rfl), by unfold sq_untell; (try rw [zn_nI (n := ua) (by omega)]); rw [if_neg c4, if_neg c8] <;> (try rw [upv_ne (by omega)]) <;> (try rfl)⟩
    · refine z_iconst (v := 1) o dX8_untell_32 (by decide) ?_
      refine z_goto (tgt := 37) o dX8_untell_33 (by decide) ?_
      exact kret _ _ _ _ dX8_untell_37 ⟨by unfold sq_untell; (try rw [zn_nI (n := ua) (by omega)]); rw [if_neg c4, if_pos c8] <;> (try rfl), by unfold sq_untell; (try rw [zn_nI (n := ua) (by omega)]); rw [if_neg c4, if_pos c8] <;> (try rw [upv_ne (by omega)]) <;> (try rfl)⟩
  · refine z_aload_n (j := 0) o dX8_untell_9 rfl ?_
    refine z_ldc (v := (-1000000001)) o dX8_untell_10 zk_X8_100 ?_
    refine z_callVi (As := [.int (-1000000001)]) (n := 1) (st := []) o dX8_untell_12 (c_X8_error hB M N 1 (by omega)) zc_X8_101 (by decide) (i := 82) (by rw [hB]; exact zsh_lt rfl (by decide)) (zg_o rfl (by decide)) rfl rfl rfl (Nat.le_of_ble_eq_true rfl) (fun r9 g10 p11 => ?_)
    obtain ⟨rfl, rfl⟩ := p11
    exact kret _ _ _ _ dX8_untell_15 ⟨by unfold sq_untell;  rw [if_pos c4] <;> (try rfl), by unfold sq_untell;  rw [if_pos c4] <;> (try rw [upv_ne (by omega)]) <;> (try rfl)⟩

def sq_seed (M : zM) (v : Int32) : Int32 × zM :=
  (M 83 1, va_up M 83 (upd (M 83) 1 v))
set_option maxHeartbeats 4000000 in
set_option maxRecDepth 100000 in
theorem c_X8_seed {B : zB} (hB : znn B = 95) (M : zM) (N : zN) (v : Int32) (hok : zOkAll (M 83)) : zCi B (zg B M N) yX8_seed cX8_seed 2 (some .int) 5 [zref B 82, .int v] (fun r g' => g' = zg B (sq_seed M v).2 N ∧ r = (sq_seed M v).1) := by
  refine zCi_of (by decide +kernel) (Nat.le_of_ble_eq_true rfl) .int rfl (fun _ _ _ => rfl) ?_
  intro X o kret
  show zW X B (zg B M N) 0 [(0, zref B 82), (1, .int v)] []
  obtain ⟨hnf, hnf4⟩ := ok_nf2 hok.1
  obtain ⟨hnc, hnc6⟩ := ok_nc2 hok.1
  refine z_aload_n (j := 0) o dX8_seed_0 rfl ?_
  refine z_iconst (v := 1) o dX8_seed_1 (by decide) ?_
  refine z_iload_n (j := 1) o dX8_seed_2 rfl ?_
  refine z_callVi (As := [.int 1, .int v]) (n := 2) (st := []) o dX8_seed_3 (c_X8_becomes hB M N 1 v (by omega)) zc_X8_119 (by decide) (i := 82) (by rw [hB]; exact zsh_lt rfl (by decide)) (zg_o rfl (by decide)) rfl rfl rfl (Nat.le_of_ble_eq_true rfl) (fun r1 g2 p3 => ?_)
  obtain ⟨rfl, rfl⟩ := p3
  rw [show zu M 83 1 v = va_up M 83 (upd (M 83) 1 v) from rfl]
  exact kret _ _ _ _ dX8_seed_6 ⟨by unfold sq_seed;  skip <;> (try rfl), by unfold sq_seed;  skip <;> (try rw [upv_ne (by omega)]) <;> (try rfl)⟩

def sq_land (M : zM) (f : Int32) (w : Int32) : Int64 × zM :=
  if zin f 0 (M 83 2 - 1) = 0 then ((zE 1).toInt64, zEr M 1) else if zin w 0 1 = 0 then ((zE 1).toInt64, zEr M 1) else if w = 0 then (sp_pset (M 83) (zn f), M) else (sp_ins (M 83) (zn f), M)
set_option maxHeartbeats 4000000 in
set_option maxRecDepth 100000 in
theorem c_X8_land {B : zB} (hB : znn B = 95) (M : zM) (N : zN) (f : Int32) (w : Int32) (hok : zOkAll (M 83)) : zCl B (zg B M N) yX8_land cX8_land 3 (some .long) 5 [zref B 82, .int f, .int w] (fun r g' => g' = zg B (sq_land M f w).2 N ∧ r = (sq_land M f w).1) := by
  refine zCl_of (by decide +kernel) (Nat.le_of_ble_eq_true rfl) ?_
  intro X o kret
  show zW X B (zg B M N) 0 [(0, zref B 82), (1, .int f), (2, .int w)] []
  obtain ⟨hnf, hnf4⟩ := ok_nf2 hok.1
  obtain ⟨hnc, hnc6⟩ := ok_nc2 hok.1
  refine z_aload_n (j := 0) o dX8_land_0 rfl ?_
  refine z_iload_n (j := 1) o dX8_land_1 rfl ?_
  refine z_callVi (As := [.int f]) (n := 1) (st := []) o dX8_land_2 (c_X8_isFence hB M N f) zc_X8_106 (by decide) (i := 82) (by rw [hB]; exact zsh_lt rfl (by decide)) (zg_o rfl (by decide)) rfl rfl rfl (Nat.le_of_ble_eq_true rfl) (fun r1 g2 p3 => ?_)
  obtain ⟨rfl, rfl⟩ := p3
  refine z_ifeq (tgt := 17) o dX8_land_5 (by decide) (fun c4 => ?_) (fun c4 => ?_)
  · refine z_aload_n (j := 0) o dX8_land_17 rfl ?_
    refine z_ldc (v := (-1000000001)) o dX8_land_18 zk_X8_100 ?_
    refine z_callVi (As := [.int (-1000000001)]) (n := 1) (st := []) o dX8_land_20 (c_X8_error hB M N 1 (by omega)) zc_X8_101 (by decide) (i := 82) (by rw [hB]; exact zsh_lt rfl (by decide)) (zg_o rfl (by decide)) rfl rfl rfl (Nat.le_of_ble_eq_true rfl) (fun r5 g6 p7 => ?_)
    obtain ⟨rfl, rfl⟩ := p7
    refine z_i2l o dX8_land_23 ?_
    exact kret _ _ _ _ dX8_land_24 ⟨by unfold sq_land;  rw [if_pos c4] <;> (try rfl), by unfold sq_land;  rw [if_pos c4] <;> (try rw [upv_ne (by omega)]) <;> (try rfl)⟩
  · have hzf := c4
    rw [hnf] at hzf
    obtain ⟨fa, hfa, efa⟩ := zin_nat (by omega) hzf
    subst efa
    refine z_iload_n (j := 2) o dX8_land_8 rfl ?_
    refine z_iconst (v := 0) o dX8_land_9 (by decide) ?_
    refine z_iconst (v := 1) o dX8_land_10 (by decide) ?_
    refine z_callSi (As := [.int w, .int 0, .int 1]) (n := 3) (st := []) o dX8_land_11 (c_X8_in hB M N w 0 1) zc_X8_51 (by decide) rfl rfl (Nat.le_of_ble_eq_true rfl) (fun r8 g9 p10 => ?_)
    obtain ⟨rfl, rfl⟩ := p10
    refine z_ifne (tgt := 25) o dX8_land_14 (by decide) (fun c11 => ?_) (fun c11 => ?_)
    · refine z_iload_n (j := 2) o dX8_land_25 rfl ?_
      refine z_ifne (tgt := 37) o dX8_land_26 (by decide) (fun c12 => ?_) (fun c12 => ?_)
      · refine z_aload_n (j := 0) o dX8_land_37 rfl ?_
        refine z_iload_n (j := 1) o dX8_land_38 rfl ?_
        refine z_callVl (As := [.int (nI fa)]) (n := 1) (st := []) o dX8_land_39 (c_X8_insideOf hB M N fa (by omega) hok.1) zc_X8_85 (by decide) (i := 82) (by rw [hB]; exact zsh_lt rfl (by decide)) (zg_o rfl (by decide)) rfl rfl rfl (Nat.le_of_ble_eq_true rfl) (fun r13 g14 p15 => ?_)
        obtain ⟨rfl, rfl⟩ := p15
        exact kret _ _ _ _ dX8_land_42 ⟨by unfold sq_land; (try rw [zn_nI (n := fa) (by omega)]); rw [if_neg c4, if_neg c11, if_neg c12] <;> (try rfl), by unfold sq_land; (try rw [zn_nI (n := fa) (by omega)]); rw [if_neg c4, if_neg c11, if_neg c12] <;> (try rw [upv_ne (by omega)]) <;> (try rfl)⟩
      · refine z_aload_n (j := 0) o dX8_land_29 rfl ?_
        refine z_iload_n (j := 1) o dX8_land_30 rfl ?_
        refine z_callVl (As := [.int (nI fa)]) (n := 1) (st := []) o dX8_land_31 (c_X8_postsOf hB M N fa _ (by omega) (ok_np2 hok.1 (by omega)).1 (ok_np2 hok.1 (by omega)).2) zc_X8_73 (by decide) (i := 82) (by rw [hB]; exact zsh_lt rfl (by decide)) (zg_o rfl (by decide)) rfl rfl rfl (Nat.le_of_ble_eq_true rfl) (fun r16 g17 p18 => ?_)
        obtain ⟨rfl, rfl⟩ := p18
        refine z_goto (tgt := 42) o dX8_land_34 (by decide) ?_
        exact kret _ _ _ _ dX8_land_42 ⟨by unfold sq_land; (try rw [zn_nI (n := fa) (by omega)]); rw [if_neg c4, if_neg c11, if_pos c12] <;> (try rfl), by unfold sq_land; (try rw [zn_nI (n := fa) (by omega)]); rw [if_neg c4, if_neg c11, if_pos c12] <;> (try rw [upv_ne (by omega)]) <;> (try rfl)⟩
    · refine z_aload_n (j := 0) o dX8_land_17 rfl ?_
      refine z_ldc (v := (-1000000001)) o dX8_land_18 zk_X8_100 ?_
      refine z_callVi (As := [.int (-1000000001)]) (n := 1) (st := []) o dX8_land_20 (c_X8_error hB M N 1 (by omega)) zc_X8_101 (by decide) (i := 82) (by rw [hB]; exact zsh_lt rfl (by decide)) (zg_o rfl (by decide)) rfl rfl rfl (Nat.le_of_ble_eq_true rfl) (fun r19 g20 p21 => ?_)
      obtain ⟨rfl, rfl⟩ := p21
      refine z_i2l o dX8_land_23 ?_
      exact kret _ _ _ _ dX8_land_24 ⟨by unfold sq_land; (try rw [zn_nI (n := fa) (by omega)]); rw [if_neg c4, if_pos c11] <;> (try rfl), by unfold sq_land; (try rw [zn_nI (n := fa) (by omega)]); rw [if_neg c4, if_pos c11] <;> (try rw [upv_ne (by omega)]) <;> (try rfl)⟩

