/-! the class: its calls (2) -/
theorem full_eq {n m : Nat} (hn : n ≤ m) (hm : m < 2 ^ 31) (h : ¬ nI n < nI m) : nI n = nI m := by
  rcases Nat.lt_or_ge n m with q | q
  · exact absurd (nI_lt q hm) h
  · rw [Nat.le_antisymm hn q]
theorem full_ne {n m : Nat} (hm : m < 2 ^ 31) (h : nI n < nI m) (hn : n ≤ m) : ¬ nI n = nI m := fun q => by
  rw [q, Int32.lt_iff_toInt_lt] at h; omega
set_option maxHeartbeats 4000000 in
set_option maxRecDepth 100000 in
theorem k_post {B : zB} (hB : znn B = 95) (M : zM) (N : zN) (A : zM) (f : Int32) (c : Int32) (hR : zRl M N A) (hok : zOkAll (A 83)) : zCi B (zg B M N) yX7_post cX7_post 4 (some .int) 1 [zref B 0, .int f, .int c] (fun r g' => ∃ (M1 : zM) (N1 : zN), g' = zg B M1 N1 ∧ r = (sq_post A f c).1 ∧ zRl M1 N1 (sq_post A f c).2 ∧ zHi M M1) := by
  refine zCi_of (by decide +kernel) (Nat.le_of_ble_eq_true rfl) .int rfl (fun _ _ _ => rfl) ?_
  intro X o kret
  show zW X B (zg B M N) 0 [(0, zref B 0), (1, .int f), (2, .int c)] []
  obtain ⟨hnf, hnf4⟩ := ok_nf2 hok.1
  obtain ⟨hnc, hnc6⟩ := ok_nc2 hok.1
  obtain ⟨hnt, hnt60⟩ := ok_nt2 hok.1
  obtain ⟨hnw, hnw24⟩ := ok_nw2 hok.1
  have hF : ∀ i, i < 4 → zFn (9 + 2 * i) M (A 83) i := fun i hi => hR.1.2.1 i hi
  refine z_aload_n (j := 0) o dX7_post_0 rfl ?_
  refine z_iload_n (j := 1) o dX7_post_1 rfl ?_
  refine z_callVi (As := [.int f]) (n := 1) (st := []) o dX7_post_2 (c_X7_isFence hB M N A f hR hok.1) zc_X7_72 (by decide) (i := 0) (by rw [hB]; exact zsh_lt rfl (by decide)) (zg_o rfl (by decide)) rfl rfl rfl (Nat.le_of_ble_eq_true rfl) (fun r1 g2 p3 => ?_)
  obtain ⟨rfl, rfl⟩ := p3
  refine z_ifeq (tgt := 15) o dX7_post_5 (by decide) (fun c4 => ?_) (fun c4 => ?_)
  · refine z_aload_n (j := 0) o dX7_post_15 rfl ?_
    refine z_iconst (v := 1) o dX7_post_16 (by decide) ?_
    refine z_callVi (As := [.int 1]) (n := 1) (st := []) o dX7_post_17 (c_X7_error hB M N 1 (by decide) (by decide)) zc_X7_54 (by decide) (i := 0) (by rw [hB]; exact zsh_lt rfl (by decide)) (zg_o rfl (by decide)) rfl rfl rfl (Nat.le_of_ble_eq_true rfl) (fun r5 g6 p7 => ?_)
    obtain ⟨rfl, rfl⟩ := p7
    have hS : sq_post A f c = ((zE 1), zEr A 1) := by
      unfold sq_post;  rw [if_pos c4] <;> (try rfl)
    exact kret _ _ _ _ dX7_post_20 ⟨zu M 73 1 (M 73 1 + 1), N, rfl, by rw [hS], by rw [hS]; exact (hR).er (k := 1) (by decide), ((zHi.rf (M := M))).zu (by decide)⟩
  · have hzf := c4
    rw [hnf] at hzf
    obtain ⟨fa, hfa, efa⟩ := zin_nat (by omega) hzf
    subst efa
    obtain ⟨hnpfa, hnp8⟩ := ok_np2 hok.1 (i := fa) (by omega)
    refine z_iload_n (j := 2) o dX7_post_8 rfl ?_
    refine z_callSi (As := [.int c]) (n := 1) (st := []) o dX7_post_9 (c_X1_isCell hB M N c) zc_X7_75 (by decide) rfl rfl (Nat.le_of_ble_eq_true rfl) (fun r8 g9 p10 => ?_)
    obtain ⟨rfl, rfl⟩ := p10
    refine zo_rw (y := zin c 0 63) (cg_cell_eq _) ?_
    refine z_ifne (tgt := 21) o dX7_post_12 (by decide) (fun c11 => ?_) (fun c11 => ?_)
    · obtain ⟨cc, hcc, ecc⟩ := zin_lit (n := 63) rfl (by decide) c11
      subst ecc
      refine z_aload_n (j := 0) o dX7_post_21 rfl ?_
      refine zo_get (i := 0) o hB dX7_post_22 zf_X7_10 rfl (by decide) (rfl) ?_
      refine zo_get (i := 1) o hB dX7_post_25 zf_X7_62 rfl (by decide) (rfl) ?_
      refine z_iload_n (j := 1) o dX7_post_28 rfl ?_
      refine zo_aldF (i := 2) (j := fa) o hB dX7_post_29 rfl (show fa < 4 by omega) (by decide) ?_
      refine z_astore_n (i := 3) (lv2 := [(3, zref B (9 + 2 * fa)), (0, zref B 0), (1, .int (nI fa)), (2, .int (nI cc))]) o dX7_post_30 rfl (by decide) rfl ?_
      refine z_aload_n (j := 0) o dX7_post_31 rfl ?_
      refine zo_get (i := 9 + 2 * fa) o hB dX7_post_32 zf_X7_80 ((zh_R (r := 1) rfl).2.2.2.2.2.2.2.1 fa (by omega)) (by decide) (rfl) ?_
      refine zo_rw (y := nI (sp_np (A 83) fa)) ((hF fa (by omega)).1.trans hnpfa) ?_
      refine z_bipush (v := 8) o dX7_post_35 (by decide) ?_
      refine z_icmplt (tgt := 46) o dX7_post_37 (by decide) (fun c12 => ?_) (fun c12 => ?_)
      · have hfull37 := nI_ltI (b := 8) (by omega) (by decide) |>.mp c12
        refine z_aload_n (j := 0) o dX7_post_46 rfl ?_
        refine zo_get (i := 9 + 2 * fa) o hB dX7_post_47 zf_X7_83 ((zh_R (r := 1) rfl).2.2.2.2.2.2.2.1 fa (by omega)) (by decide) (rfl) ?_
        refine z_aload_n (j := 0) o dX7_post_50 rfl ?_
        refine zo_get (i := 9 + 2 * fa) o hB dX7_post_51 zf_X7_80 ((zh_R (r := 1) rfl).2.2.2.2.2.2.2.1 fa (by omega)) (by decide) (rfl) ?_
        refine zo_rw (y := nI (sp_np (A 83) fa)) ((hF fa (by omega)).1.trans hnpfa) ?_
        refine z_iload_n (j := 3) o dX7_post_54 rfl ?_
        refine zo_iast (i := 9 + 2 * fa + 1) (j := sp_np (A 83) fa) o hB dX7_post_55 (zh_F ((zh_R (r := 1) rfl).2.2.2.2.2.2.2.1 fa (by omega))) (by rw [(zh_Fn ((zh_R (r := 1) rfl).2.2.2.2.2.2.2.1 fa (by omega)))]; omega) (by rw [(zh_Fn ((zh_R (r := 1) rfl).2.2.2.2.2.2.2.1 fa (by omega)))]; decide) ?_
        refine z_aload_n (j := 0) o dX7_post_56 rfl ?_
        refine z_dup o dX7_post_57 rfl ?_
        refine zo_get (i := 9 + 2 * fa) o hB dX7_post_58 zf_X7_80 ((zh_R (r := 1) rfl).2.2.2.2.2.2.2.1 fa (by omega)) (by decide) (rfl) ?_
        refine zo_rw (y := nI (sp_np (A 83) fa)) (by rw [zu_ne (by omega)]; exact (hF fa (by omega)).1.trans hnpfa) ?_
        refine z_iconst (v := 1) o dX7_post_61 (by decide) ?_
        refine z_iadd o dX7_post_62 ?_
        refine zo_rw (y := nI (sp_np (A 83) fa + 1)) (zn_add (rfl) (rfl)) ?_
        refine zo_put (i := 9 + 2 * fa) o hB dX7_post_63 zp_X7_80 ((zh_R (r := 1) rfl).2.2.2.2.2.2.2.1 fa (by omega)) (by decide) (by decide) (Nat.le_of_ble_eq_true rfl) ?_
        refine z_aload_n (j := 0) o dX7_post_66 rfl ?_
        refine zo_get (i := 9 + 2 * fa) o hB dX7_post_67 zf_X7_80 ((zh_R (r := 1) rfl).2.2.2.2.2.2.2.1 fa (by omega)) (by decide) (rfl) ?_
        refine zo_rw (y := nI (sp_np (A 83) fa + 1)) (by rw [zu_at, upd_self]) ?_
        have hS : sq_post A (nI fa) (nI cc) = ((nI (sp_np (A 83) fa + 1)), va_up A 83 (upd (upd (A 83) (6 + 13 * fa + (5 + sp_np (A 83) fa)) (nI cc)) (6 + 13 * fa + 3) (nI (sp_np (A 83) fa + 1)))) := by
          unfold sq_post; (try rw [zn_nI (n := fa) (by omega)]); (try rw [zn_nI (n := cc) (by omega)]); rw [if_neg c4, if_neg c11, if_neg (show ¬ nI (sp_np (A 83) fa) = 8 from full_ne (m := 8) (by decide) c12 (by omega))] <;> (try rfl)
        exact kret _ _ _ _ dX7_post_70 ⟨zu (zu M (9 + 2 * fa + 1) (sp_np (A 83) fa) (nI cc)) (9 + 2 * fa) 1 (nI (sp_np (A 83) fa + 1)), N, rfl, by rw [hS], by rw [hS]; exact hR.now ((hR.1.cel (r := 1) (i := fa) (k := sp_np (A 83) fa) (x := (nI cc)) (by omega) (by omega)).f1 (r := 1) (i := fa) (k := 1) (v := 3) (x := (nI (sp_np (A 83) fa + 1))) (by omega) (by decide)) (fun j hj => (((zFr.rf (r := 1) (M := M)).zu (i := 9 + 2 * fa + 1) ⟨by omega, by omega⟩).zu (i := 9 + 2 * fa) ⟨by omega, by omega⟩) j (by omega)) (fun j hj => (fun j _ => rfl : zFrN 1 N N) j (by omega)), (zHi.rf (M := M)).fr (((zFr.rf (r := 1) (M := M)).zu (i := 9 + 2 * fa + 1) ⟨by omega, by omega⟩).zu (i := 9 + 2 * fa) ⟨by omega, by omega⟩) (by decide)⟩
      · refine z_aload_n (j := 1) o dX7_post_40 rfl ?_
        refine z_iconst (v := 4) o dX7_post_41 (by decide) ?_
        refine z_callVi (As := [.int 4]) (n := 1) (st := []) o dX7_post_42 (c_X7_error hB M N 4 (by decide) (by decide)) zc_X7_54 (by decide) (i := 0) (by rw [hB]; exact zsh_lt rfl (by decide)) (zg_o rfl (by decide)) rfl rfl rfl (Nat.le_of_ble_eq_true rfl) (fun r13 g14 p15 => ?_)
        obtain ⟨rfl, rfl⟩ := p15
        have hS : sq_post A (nI fa) (nI cc) = ((zE 4), zEr A 4) := by
          unfold sq_post; (try rw [zn_nI (n := fa) (by omega)]); (try rw [zn_nI (n := cc) (by omega)]); rw [if_neg c4, if_neg c11, if_pos (show nI (sp_np (A 83) fa) = 8 from full_eq (m := 8) (by omega) (by decide) c12)] <;> (try rfl)
        exact kret _ _ _ _ dX7_post_45 ⟨zu M 73 4 (M 73 4 + 1), N, rfl, by rw [hS], by rw [hS]; exact (hR).er (k := 4) (by decide), ((zHi.rf (M := M))).zu (by decide)⟩
    · refine z_aload_n (j := 0) o dX7_post_15 rfl ?_
      refine z_iconst (v := 1) o dX7_post_16 (by decide) ?_
      refine z_callVi (As := [.int 1]) (n := 1) (st := []) o dX7_post_17 (c_X7_error hB M N 1 (by decide) (by decide)) zc_X7_54 (by decide) (i := 0) (by rw [hB]; exact zsh_lt rfl (by decide)) (zg_o rfl (by decide)) rfl rfl rfl (Nat.le_of_ble_eq_true rfl) (fun r16 g17 p18 => ?_)
      obtain ⟨rfl, rfl⟩ := p18
      have hS : sq_post A (nI fa) c = ((zE 1), zEr A 1) := by
        unfold sq_post; (try rw [zn_nI (n := fa) (by omega)]); rw [if_neg c4, if_pos c11] <;> (try rfl)
      exact kret _ _ _ _ dX7_post_20 ⟨zu M 73 1 (M 73 1 + 1), N, rfl, by rw [hS], by rw [hS]; exact (hR).er (k := 1) (by decide), ((zHi.rf (M := M))).zu (by decide)⟩

set_option maxHeartbeats 4000000 in
set_option maxRecDepth 100000 in
theorem k_at {B : zB} (hB : znn B = 95) (M : zM) (N : zN) (A : zM) (f : Int32) (p : Int32) (hR : zRl M N A) (hok : zOkAll (A 83)) : zCi B (zg B M N) yX7_at cX7_at 3 (some .int) 2 [zref B 0, .int f, .int p] (fun r g' => ∃ (M1 : zM) (N1 : zN), g' = zg B M1 N1 ∧ r = (sq_at A f p).1 ∧ zRl M1 N1 (sq_at A f p).2 ∧ zHi M M1) := by
  refine zCi_of (by decide +kernel) (Nat.le_of_ble_eq_true rfl) .int rfl (fun _ _ _ => rfl) ?_
  intro X o kret
  show zW X B (zg B M N) 0 [(0, zref B 0), (1, .int f), (2, .int p)] []
  obtain ⟨hnf, hnf4⟩ := ok_nf2 hok.1
  obtain ⟨hnc, hnc6⟩ := ok_nc2 hok.1
  obtain ⟨hnt, hnt60⟩ := ok_nt2 hok.1
  obtain ⟨hnw, hnw24⟩ := ok_nw2 hok.1
  have hF : ∀ i, i < 4 → zFn (9 + 2 * i) M (A 83) i := fun i hi => hR.1.2.1 i hi
  refine z_aload_n (j := 0) o dX7_at_0 rfl ?_
  refine z_iload_n (j := 1) o dX7_at_1 rfl ?_
  refine z_iload_n (j := 2) o dX7_at_2 rfl ?_
  refine z_callVi (As := [.int f, .int p]) (n := 2) (st := []) o dX7_at_3 (c_X7_isPost hB M N A f p hR hok) zc_X7_112 (by decide) (i := 0) (by rw [hB]; exact zsh_lt rfl (by decide)) (zg_o rfl (by decide)) rfl rfl rfl (Nat.le_of_ble_eq_true rfl) (fun r1 g2 p3 => ?_)
  obtain ⟨rfl, rfl⟩ := p3
  refine z_ifne (tgt := 15) o dX7_at_6 (by decide) (fun c4 => ?_) (fun c4 => ?_)
  · obtain ⟨fa, pb, hfa, hpb, ef, ep⟩ := isPost_nat hok.1 c4
    subst ef
    subst ep
    obtain ⟨hnpfa, hnp8⟩ := ok_np2 hok.1 (i := fa) (by omega)
    refine z_aload_n (j := 0) o dX7_at_15 rfl ?_
    refine zo_get (i := 0) o hB dX7_at_16 zf_X7_10 rfl (by decide) (rfl) ?_
    refine zo_get (i := 1) o hB dX7_at_19 zf_X7_62 rfl (by decide) (rfl) ?_
    refine z_iload_n (j := 1) o dX7_at_22 rfl ?_
    refine zo_aldF (i := 2) (j := fa) o hB dX7_at_23 rfl (show fa < 4 by omega) (by decide) ?_
    refine zo_get (i := 9 + 2 * fa) o hB dX7_at_24 zf_X7_83 ((zh_R (r := 1) rfl).2.2.2.2.2.2.2.1 fa (by omega)) (by decide) (rfl) ?_
    refine z_iload_n (j := 2) o dX7_at_27 rfl ?_
    refine zo_iald (i := 9 + 2 * fa + 1) (j := pb) o hB dX7_at_28 (zh_F ((zh_R (r := 1) rfl).2.2.2.2.2.2.2.1 fa (by omega))) (by rw [(zh_Fn ((zh_R (r := 1) rfl).2.2.2.2.2.2.2.1 fa (by omega)))]; omega) (by rw [(zh_Fn ((zh_R (r := 1) rfl).2.2.2.2.2.2.2.1 fa (by omega)))]; decide) ?_
    refine zo_rw (y := A 83 (6 + 13 * fa + (5 + pb))) ((hF fa (by omega)).2.2.2.2.2 pb (by omega)) ?_
    have hS : sq_at A (nI fa) (nI pb) = ((A 83 (6 + 13 * fa + (5 + pb))), A) := by
      unfold sq_at; (try rw [zn_nI (n := fa) (by omega)]); (try rw [zn_nI (n := pb) (by omega)]); rw [if_neg c4] <;> (try rfl)
    exact kret _ _ _ _ dX7_at_29 ⟨M, N, rfl, by rw [hS], by rw [hS]; exact hR, (zHi.rf (M := M))⟩
  · refine z_aload_n (j := 0) o dX7_at_9 rfl ?_
    refine z_iconst (v := 1) o dX7_at_10 (by decide) ?_
    refine z_callVi (As := [.int 1]) (n := 1) (st := []) o dX7_at_11 (c_X7_error hB M N 1 (by decide) (by decide)) zc_X7_54 (by decide) (i := 0) (by rw [hB]; exact zsh_lt rfl (by decide)) (zg_o rfl (by decide)) rfl rfl rfl (Nat.le_of_ble_eq_true rfl) (fun r5 g6 p7 => ?_)
    obtain ⟨rfl, rfl⟩ := p7
    have hS : sq_at A f p = ((zE 1), zEr A 1) := by
      unfold sq_at;  rw [if_pos c4] <;> (try rfl)
    exact kret _ _ _ _ dX7_at_14 ⟨zu M 73 1 (M 73 1 + 1), N, rfl, by rw [hS], by rw [hS]; exact (hR).er (k := 1) (by decide), ((zHi.rf (M := M))).zu (by decide)⟩

set_option maxHeartbeats 4000000 in
set_option maxRecDepth 100000 in
theorem k_heads {B : zB} (hB : znn B = 95) (M : zM) (N : zN) (A : zM) (f : Int32) (p : Int32) (hR : zRl M N A) (hok : zOkAll (A 83)) : zCi B (zg B M N) yX7_heads cX7_heads 3 (some .int) 2 [zref B 0, .int f, .int p] (fun r g' => ∃ (M1 : zM) (N1 : zN), g' = zg B M1 N1 ∧ r = (sq_heads A f p).1 ∧ zRl M1 N1 (sq_heads A f p).2 ∧ zHi M M1) := by
  refine zCi_of (by decide +kernel) (Nat.le_of_ble_eq_true rfl) .int rfl (fun _ _ _ => rfl) ?_
  intro X o kret
  show zW X B (zg B M N) 0 [(0, zref B 0), (1, .int f), (2, .int p)] []
  obtain ⟨hnf, hnf4⟩ := ok_nf2 hok.1
  obtain ⟨hnc, hnc6⟩ := ok_nc2 hok.1
  obtain ⟨hnt, hnt60⟩ := ok_nt2 hok.1
  obtain ⟨hnw, hnw24⟩ := ok_nw2 hok.1
  have hF : ∀ i, i < 4 → zFn (9 + 2 * i) M (A 83) i := fun i hi => hR.1.2.1 i hi
  refine z_aload_n (j := 0) o dX7_heads_0 rfl ?_
  refine z_iload_n (j := 1) o dX7_heads_1 rfl ?_
  refine z_iload_n (j := 2) o dX7_heads_2 rfl ?_
  refine z_callVi (As := [.int f, .int p]) (n := 2) (st := []) o dX7_heads_3 (c_X7_isPost hB M N A f p hR hok) zc_X7_112 (by decide) (i := 0) (by rw [hB]; exact zsh_lt rfl (by decide)) (zg_o rfl (by decide)) rfl rfl rfl (Nat.le_of_ble_eq_true rfl) (fun r1 g2 p3 => ?_)
  obtain ⟨rfl, rfl⟩ := p3
  refine z_ifne (tgt := 15) o dX7_heads_6 (by decide) (fun c4 => ?_) (fun c4 => ?_)
  · obtain ⟨fa, pb, hfa, hpb, ef, ep⟩ := isPost_nat hok.1 c4
    subst ef
    subst ep
    obtain ⟨hnpfa, hnp8⟩ := ok_np2 hok.1 (i := fa) (by omega)
    refine z_aload_n (j := 0) o dX7_heads_15 rfl ?_
    refine zo_get (i := 0) o hB dX7_heads_16 zf_X7_10 rfl (by decide) (rfl) ?_
    refine zo_get (i := 1) o hB dX7_heads_19 zf_X7_62 rfl (by decide) (rfl) ?_
    refine z_iload_n (j := 1) o dX7_heads_22 rfl ?_
    refine zo_aldF (i := 2) (j := fa) o hB dX7_heads_23 rfl (show fa < 4 by omega) (by decide) ?_
    refine z_iload_n (j := 2) o dX7_heads_24 rfl ?_
    refine z_aload_n (j := 0) o dX7_heads_25 rfl ?_
    refine zo_get (i := 0) o hB dX7_heads_26 zf_X7_10 rfl (by decide) (rfl) ?_
    refine zo_get (i := 1) o hB dX7_heads_29 zf_X7_116 rfl (by decide) (rfl) ?_
    refine zo_rw (y := A 83 0) (hR.1.1.2.2.1) ?_
    refine z_callVi (As := [.int (nI pb), .int (A 83 0)]) (n := 2) (st := []) o dX7_heads_32 (c_X0_headsAt hB M N (9 + 2 * fa) fa (A 83) (nI pb) (A 83 0) ((zh_R (r := 1) rfl).2.2.2.2.2.2.2.1 fa (by omega)) (by omega) hok.1 (hF fa (by omega))) zc_X7_119 (by decide) (i := 9 + 2 * fa) (by rw [hB]; exact zsh_lt ((zh_R (r := 1) rfl).2.2.2.2.2.2.2.1 fa (by omega)) (by decide)) (zg_o ((zh_R (r := 1) rfl).2.2.2.2.2.2.2.1 fa (by omega)) (by decide)) rfl rfl rfl (Nat.le_of_ble_eq_true rfl) (fun r5 g6 p7 => ?_)
    obtain ⟨rfl, rfl⟩ := p7
    refine zo_rw (y := sp_heads (A 83) fa pb) (cg_hd_eq (A 83) fa pb) ?_
    have hS : sq_heads A (nI fa) (nI pb) = (sp_heads (A 83) fa pb, A) := by
      unfold sq_heads; (try rw [zn_nI (n := fa) (by omega)]); (try rw [zn_nI (n := pb) (by omega)]); rw [if_neg c4] <;> (try rfl)
    exact kret _ _ _ _ dX7_heads_35 ⟨M, N, rfl, by rw [hS], by rw [hS]; exact hR, (zHi.rf (M := M))⟩
  · refine z_aload_n (j := 0) o dX7_heads_9 rfl ?_
    refine z_iconst (v := 1) o dX7_heads_10 (by decide) ?_
    refine z_callVi (As := [.int 1]) (n := 1) (st := []) o dX7_heads_11 (c_X7_error hB M N 1 (by decide) (by decide)) zc_X7_54 (by decide) (i := 0) (by rw [hB]; exact zsh_lt rfl (by decide)) (zg_o rfl (by decide)) rfl rfl rfl (Nat.le_of_ble_eq_true rfl) (fun r8 g9 p10 => ?_)
    obtain ⟨rfl, rfl⟩ := p10
    have hS : sq_heads A f p = ((zE 1), zEr A 1) := by
      unfold sq_heads;  rw [if_pos c4] <;> (try rfl)
    exact kret _ _ _ _ dX7_heads_14 ⟨zu M 73 1 (M 73 1 + 1), N, rfl, by rw [hS], by rw [hS]; exact (hR).er (k := 1) (by decide), ((zHi.rf (M := M))).zu (by decide)⟩

set_option maxHeartbeats 4000000 in
set_option maxRecDepth 100000 in
theorem k_turn {B : zB} (hB : znn B = 95) (M : zM) (N : zN) (A : zM) (f : Int32) (hd : Int32) (hR : zRl M N A) (hok : zOkAll (A 83)) : zCi B (zg B M N) yX7_turn cX7_turn 4 (some .int) 1 [zref B 0, .int f, .int hd] (fun r g' => ∃ (M1 : zM) (N1 : zN), g' = zg B M1 N1 ∧ r = (sq_turn A f hd).1 ∧ zRl M1 N1 (sq_turn A f hd).2 ∧ zHi M M1) := by
  refine zCi_of (by decide +kernel) (Nat.le_of_ble_eq_true rfl) .int rfl (fun _ _ _ => rfl) ?_
  intro X o kret
  show zW X B (zg B M N) 0 [(0, zref B 0), (1, .int f), (2, .int hd)] []
  obtain ⟨hnf, hnf4⟩ := ok_nf2 hok.1
  obtain ⟨hnc, hnc6⟩ := ok_nc2 hok.1
  obtain ⟨hnt, hnt60⟩ := ok_nt2 hok.1
  obtain ⟨hnw, hnw24⟩ := ok_nw2 hok.1
  have hF : ∀ i, i < 4 → zFn (9 + 2 * i) M (A 83) i := fun i hi => hR.1.2.1 i hi
  refine z_aload_n (j := 0) o dX7_turn_0 rfl ?_
  refine z_iload_n (j := 1) o dX7_turn_1 rfl ?_
  refine z_callVi (As := [.int f]) (n := 1) (st := []) o dX7_turn_2 (c_X7_isFence hB M N A f hR hok.1) zc_X7_72 (by decide) (i := 0) (by rw [hB]; exact zsh_lt rfl (by decide)) (zg_o rfl (by decide)) rfl rfl rfl (Nat.le_of_ble_eq_true rfl) (fun r1 g2 p3 => ?_)
  obtain ⟨rfl, rfl⟩ := p3
  refine z_ifeq (tgt := 15) o dX7_turn_5 (by decide) (fun c4 => ?_) (fun c4 => ?_)
  · refine z_aload_n (j := 0) o dX7_turn_15 rfl ?_
    refine z_iconst (v := 1) o dX7_turn_16 (by decide) ?_
    refine z_callVi (As := [.int 1]) (n := 1) (st := []) o dX7_turn_17 (c_X7_error hB M N 1 (by decide) (by decide)) zc_X7_54 (by decide) (i := 0) (by rw [hB]; exact zsh_lt rfl (by decide)) (zg_o rfl (by decide)) rfl rfl rfl (Nat.le_of_ble_eq_true rfl) (fun r5 g6 p7 => ?_)
    obtain ⟨rfl, rfl⟩ := p7
    have hS : sq_turn A f hd = ((zE 1), zEr A 1) := by
      unfold sq_turn;  rw [if_pos c4] <;> (try rfl)
    exact kret _ _ _ _ dX7_turn_20 ⟨zu M 73 1 (M 73 1 + 1), N, rfl, by rw [hS], by rw [hS]; exact (hR).er (k := 1) (by decide), ((zHi.rf (M := M))).zu (by decide)⟩
  · have hzf := c4
    rw [hnf] at hzf
    obtain ⟨fa, hfa, efa⟩ := zin_nat (by omega) hzf
    subst efa
    obtain ⟨hnpfa, hnp8⟩ := ok_np2 hok.1 (i := fa) (by omega)
    refine z_iload_n (j := 2) o dX7_turn_8 rfl ?_
    refine z_callSi (As := [.int hd]) (n := 1) (st := []) o dX7_turn_9 (c_X7_isWay hB M N hd) zc_X7_51 (by decide) rfl rfl (Nat.le_of_ble_eq_true rfl) (fun r8 g9 p10 => ?_)
    obtain ⟨rfl, rfl⟩ := p10
    refine z_ifne (tgt := 21) o dX7_turn_12 (by decide) (fun c11 => ?_) (fun c11 => ?_)
    · refine z_aload_n (j := 0) o dX7_turn_21 rfl ?_
      refine zo_get (i := 0) o hB dX7_turn_22 zf_X7_10 rfl (by decide) (rfl) ?_
      refine zo_get (i := 1) o hB dX7_turn_25 zf_X7_62 rfl (by decide) (rfl) ?_
      refine z_iload_n (j := 1) o dX7_turn_28 rfl ?_
      refine zo_aldF (i := 2) (j := fa) o hB dX7_turn_29 rfl (show fa < 4 by omega) (by decide) ?_
      refine zo_get (i := 9 + 2 * fa) o hB dX7_turn_30 zf_X7_92 ((zh_R (r := 1) rfl).2.2.2.2.2.2.2.1 fa (by omega)) (by decide) (rfl) ?_
      refine zo_rw (y := A 83 (6 + 13 * fa + 2)) ((hF fa (by omega)).2.2.2.1) ?_
      refine z_istore_n (i := 3) (lv2 := [(3, .int (A 83 (6 + 13 * fa + 2))), (0, zref B 0), (1, .int (nI fa)), (2, .int hd)]) o dX7_turn_33 rfl (by decide) rfl ?_
      refine z_aload_n (j := 1) o dX7_turn_34 rfl ?_
      refine zo_get (i := 0) o hB dX7_turn_35 zf_X7_10 rfl (by decide) (rfl) ?_
      refine zo_get (i := 1) o hB dX7_turn_38 zf_X7_62 rfl (by decide) (rfl) ?_
      refine z_iload_n (j := 2) o dX7_turn_41 rfl ?_
      refine zo_aldF (i := 2) (j := fa) o hB dX7_turn_42 rfl (show fa < 4 by omega) (by decide) ?_
      refine z_iload_n (j := 3) o dX7_turn_43 rfl ?_
      refine zo_put (i := 9 + 2 * fa) o hB dX7_turn_44 zp_X7_92 ((zh_R (r := 1) rfl).2.2.2.2.2.2.2.1 fa (by omega)) (by decide) (by decide) (Nat.le_of_ble_eq_true rfl) ?_
      refine z_iload_n (j := 0) o dX7_turn_47 rfl ?_
      have hS : sq_turn A (nI fa) hd = ((A 83 (6 + 13 * fa + 2)), va_up A 83 (upd (A 83) (6 + 13 * fa + 2) hd)) := by
        unfold sq_turn; (try rw [zn_nI (n := fa) (by omega)]); rw [if_neg c4, if_neg c11] <;> (try rfl)
      exact kret _ _ _ _ dX7_turn_48 ⟨zu M (9 + 2 * fa) 4 hd, N, rfl, by rw [hS], by rw [hS]; exact hR.now (hR.1.f1 (r := 1) (i := fa) (k := 4) (v := 2) (x := hd) (by omega) (by decide)) (fun j hj => ((zFr.rf (r := 1) (M := M)).zu (i := 9 + 2 * fa) ⟨by omega, by omega⟩) j (by omega)) (fun j hj => (fun j _ => rfl : zFrN 1 N N) j (by omega)), (zHi.rf (M := M)).fr ((zFr.rf (r := 1) (M := M)).zu (i := 9 + 2 * fa) ⟨by omega, by omega⟩) (by decide)⟩
    · refine z_aload_n (j := 0) o dX7_turn_15 rfl ?_
      refine z_iconst (v := 1) o dX7_turn_16 (by decide) ?_
      refine z_callVi (As := [.int 1]) (n := 1) (st := []) o dX7_turn_17 (c_X7_error hB M N 1 (by decide) (by decide)) zc_X7_54 (by decide) (i := 0) (by rw [hB]; exact zsh_lt rfl (by decide)) (zg_o rfl (by decide)) rfl rfl rfl (Nat.le_of_ble_eq_true rfl) (fun r12 g13 p14 => ?_)
      obtain ⟨rfl, rfl⟩ := p14
      have hS : sq_turn A (nI fa) hd = ((zE 1), zEr A 1) := by
        unfold sq_turn; (try rw [zn_nI (n := fa) (by omega)]); rw [if_neg c4, if_pos c11] <;> (try rfl)
      exact kret _ _ _ _ dX7_turn_20 ⟨zu M 73 1 (M 73 1 + 1), N, rfl, by rw [hS], by rw [hS]; exact (hR).er (k := 1) (by decide), ((zHi.rf (M := M))).zu (by decide)⟩

set_option maxHeartbeats 4000000 in
set_option maxRecDepth 100000 in
theorem k_cut {B : zB} (hB : znn B = 95) (M : zM) (N : zN) (A : zM) (f : Int32) (hR : zRl M N A) (hok : zOkAll (A 83)) : zCi B (zg B M N) yX7_cut cX7_cut 3 (some .int) 1 [zref B 0, .int f] (fun r g' => ∃ (M1 : zM) (N1 : zN), g' = zg B M1 N1 ∧ r = (sq_cut A f).1 ∧ zRl M1 N1 (sq_cut A f).2 ∧ zHi M M1) := by
  refine zCi_of (by decide +kernel) (Nat.le_of_ble_eq_true rfl) .int rfl (fun _ _ _ => rfl) ?_
  intro X o kret
  show zW X B (zg B M N) 0 [(0, zref B 0), (1, .int f)] []
  obtain ⟨hnf, hnf4⟩ := ok_nf2 hok.1
  obtain ⟨hnc, hnc6⟩ := ok_nc2 hok.1
  obtain ⟨hnt, hnt60⟩ := ok_nt2 hok.1
  obtain ⟨hnw, hnw24⟩ := ok_nw2 hok.1
  have hF : ∀ i, i < 4 → zFn (9 + 2 * i) M (A 83) i := fun i hi => hR.1.2.1 i hi
  refine z_aload_n (j := 0) o dX7_cut_0 rfl ?_
  refine z_iload_n (j := 1) o dX7_cut_1 rfl ?_
  refine z_callVi (As := [.int f]) (n := 1) (st := []) o dX7_cut_2 (c_X7_isFence hB M N A f hR hok.1) zc_X7_72 (by decide) (i := 0) (by rw [hB]; exact zsh_lt rfl (by decide)) (zg_o rfl (by decide)) rfl rfl rfl (Nat.le_of_ble_eq_true rfl) (fun r1 g2 p3 => ?_)
  obtain ⟨rfl, rfl⟩ := p3
  refine z_ifne (tgt := 14) o dX7_cut_5 (by decide) (fun c4 => ?_) (fun c4 => ?_)
  · have hzf := c4
    rw [hnf] at hzf
    obtain ⟨fa, hfa, efa⟩ := zin_nat (by omega) hzf
    subst efa
    obtain ⟨hnpfa, hnp8⟩ := ok_np2 hok.1 (i := fa) (by omega)
    refine z_aload_n (j := 0) o dX7_cut_14 rfl ?_
    refine zo_get (i := 0) o hB dX7_cut_15 zf_X7_10 rfl (by decide) (rfl) ?_
    refine zo_get (i := 1) o hB dX7_cut_18 zf_X7_62 rfl (by decide) (rfl) ?_
    refine z_iload_n (j := 1) o dX7_cut_21 rfl ?_
    refine zo_aldF (i := 2) (j := fa) o hB dX7_cut_22 rfl (show fa < 4 by omega) (by decide) ?_
    refine z_astore_n (i := 2) (lv2 := [(2, zref B (9 + 2 * fa)), (0, zref B 0), (1, .int (nI fa))]) o dX7_cut_23 rfl (by decide) rfl ?_
    refine z_aload_n (j := 0) o dX7_cut_24 rfl ?_
    refine zo_get (i := 9 + 2 * fa) o hB dX7_cut_25 zf_X7_80 ((zh_R (r := 1) rfl).2.2.2.2.2.2.2.1 fa (by omega)) (by decide) (rfl) ?_
    refine zo_rw (y := nI (sp_np (A 83) fa)) ((hF fa (by omega)).1.trans hnpfa) ?_
    refine z_ifgt (tgt := 37) o dX7_cut_28 (by decide) (fun c5 => ?_) (fun c5 => ?_)
    · refine z_aload_n (j := 0) o dX7_cut_37 rfl ?_
      refine z_dup o dX7_cut_38 rfl ?_
      refine zo_get (i := 9 + 2 * fa) o hB dX7_cut_39 zf_X7_80 ((zh_R (r := 1) rfl).2.2.2.2.2.2.2.1 fa (by omega)) (by decide) (rfl) ?_
      refine zo_rw (y := nI (sp_np (A 83) fa)) ((hF fa (by omega)).1.trans hnpfa) ?_
      refine z_iconst (v := 1) o dX7_cut_42 (by decide) ?_
      refine z_isub o dX7_cut_43 ?_
      refine zo_put (i := 9 + 2 * fa) o hB dX7_cut_44 zp_X7_80 ((zh_R (r := 1) rfl).2.2.2.2.2.2.2.1 fa (by omega)) (by decide) (by decide) (Nat.le_of_ble_eq_true rfl) ?_
      refine z_aload_n (j := 0) o dX7_cut_47 rfl ?_
      refine zo_get (i := 9 + 2 * fa) o hB dX7_cut_48 zf_X7_80 ((zh_R (r := 1) rfl).2.2.2.2.2.2.2.1 fa (by omega)) (by decide) (rfl) ?_
      refine zo_rw (y := nI (sp_np (A 83) fa) - 1) (by rw [zu_at, upd_self]) ?_
      have hS : sq_cut A (nI fa) = ((nI (sp_np (A 83) fa) - 1), va_up A 83 (upd (A 83) (6 + 13 * fa + 3) ((nI (sp_np (A 83) fa)) - 1))) := by
        unfold sq_cut; (try rw [zn_nI (n := fa) (by omega)]); rw [if_neg c4, if_neg (fun q => by rw [q] at c5; exact absurd c5 (by decide))] <;> (try rfl)
      exact kret _ _ _ _ dX7_cut_51 ⟨zu M (9 + 2 * fa) 1 ((nI (sp_np (A 83) fa)) - 1), N, rfl, by rw [hS], by rw [hS]; exact hR.now (hR.1.f1 (r := 1) (i := fa) (k := 1) (v := 3) (x := ((nI (sp_np (A 83) fa)) - 1)) (by omega) (by decide)) (fun j hj => ((zFr.rf (r := 1) (M := M)).zu (i := 9 + 2 * fa) ⟨by omega, by omega⟩) j (by omega)) (fun j hj => (fun j _ => rfl : zFrN 1 N N) j (by omega)), (zHi.rf (M := M)).fr ((zFr.rf (r := 1) (M := M)).zu (i := 9 + 2 * fa) ⟨by omega, by omega⟩) (by decide)⟩
    · refine z_aload_n (j := 1) o dX7_cut_31 rfl ?_
      refine z_iconst (v := 3) o dX7_cut_32 (by decide) ?_
      refine z_callVi (As := [.int 3]) (n := 1) (st := []) o dX7_cut_33 (c_X7_error hB M N 3 (by decide) (by decide)) zc_X7_54 (by decide) (i := 0) (by rw [hB]; exact zsh_lt rfl (by decide)) (zg_o rfl (by decide)) rfl rfl rfl (Nat.le_of_ble_eq_true rfl) (fun r6 g7 p8 => ?_)
      obtain ⟨rfl, rfl⟩ := p8
      have hS : sq_cut A (nI fa) = ((zE 3), zEr A 3) := by
        unfold sq_cut; (try rw [zn_nI (n := fa) (by omega)]); rw [if_neg c4, if_pos (by rcases Nat.eq_zero_or_pos (sp_np (A 83) fa) with q | q; rw [q]; rfl; exact absurd (nI_lt (a := 0) q (by omega)) c5)] <;> (try rfl)
      exact kret _ _ _ _ dX7_cut_36 ⟨zu M 73 3 (M 73 3 + 1), N, rfl, by rw [hS], by rw [hS]; exact (hR).er (k := 3) (by decide), ((zHi.rf (M := M))).zu (by decide)⟩
  · refine z_aload_n (j := 0) o dX7_cut_8 rfl ?_
    refine z_iconst (v := 1) o dX7_cut_9 (by decide) ?_
    refine z_callVi (As := [.int 1]) (n := 1) (st := []) o dX7_cut_10 (c_X7_error hB M N 1 (by decide) (by decide)) zc_X7_54 (by decide) (i := 0) (by rw [hB]; exact zsh_lt rfl (by decide)) (zg_o rfl (by decide)) rfl rfl rfl (Nat.le_of_ble_eq_true rfl) (fun r9 g10 p11 => ?_)
    obtain ⟨rfl, rfl⟩ := p11
    have hS : sq_cut A f = ((zE 1), zEr A 1) := by
      unfold sq_cut;  rw [if_pos c4] <;> (try rfl)
    exact kret _ _ _ _ dX7_cut_13 ⟨zu M 73 1 (M 73 1 + 1), N, rfl, by rw [hS], by rw [hS]; exact (hR).er (k := 1) (by decide), ((zHi.rf (M := M))).zu (by decide)⟩

set_option maxHeartbeats 4000000 in
set_option maxRecDepth 100000 in
theorem k_seed {B : zB} (hB : znn B = 95) (M : zM) (N : zN) (A : zM) (v : Int32) (hR : zRl M N A) (hok : zOkAll (A 83)) : zCi B (zg B M N) yX7_seed cX7_seed 3 (some .int) 0 [zref B 0, .int v] (fun r g' => ∃ (M1 : zM) (N1 : zN), g' = zg B M1 N1 ∧ r = (sq_seed A v).1 ∧ zRl M1 N1 (sq_seed A v).2 ∧ zHi M M1) := by
  refine zCi_of (by decide +kernel) (Nat.le_of_ble_eq_true rfl) .int rfl (fun _ _ _ => rfl) ?_
  intro X o kret
  show zW X B (zg B M N) 0 [(0, zref B 0), (1, .int v)] []
  obtain ⟨hnf, hnf4⟩ := ok_nf2 hok.1
  obtain ⟨hnc, hnc6⟩ := ok_nc2 hok.1
  obtain ⟨hnt, hnt60⟩ := ok_nt2 hok.1
  obtain ⟨hnw, hnw24⟩ := ok_nw2 hok.1
  have hF : ∀ i, i < 4 → zFn (9 + 2 * i) M (A 83) i := fun i hi => hR.1.2.1 i hi
  refine z_aload_n (j := 0) o dX7_seed_0 rfl ?_
  refine zo_get (i := 0) o hB dX7_seed_1 zf_X7_10 rfl (by decide) (rfl) ?_
  refine zo_get (i := 1) o hB dX7_seed_4 zf_X7_207 rfl (by decide) (rfl) ?_
  refine zo_rw (y := A 83 1) (hR.1.1.2.2.2.1) ?_
  refine z_istore_n (i := 2) (lv2 := [(2, .int (A 83 1)), (0, zref B 0), (1, .int v)]) o dX7_seed_7 rfl (by decide) rfl ?_
  refine z_aload_n (j := 1) o dX7_seed_8 rfl ?_
  refine zo_get (i := 0) o hB dX7_seed_9 zf_X7_10 rfl (by decide) (rfl) ?_
  refine z_iload_n (j := 2) o dX7_seed_12 rfl ?_
  refine zo_put (i := 1) o hB dX7_seed_13 zp_X7_207 rfl (by decide) (by decide) (Nat.le_of_ble_eq_true rfl) ?_
  refine z_iload_n (j := 0) o dX7_seed_16 rfl ?_
  have hS : sq_seed A v = ((A 83 1), va_up A 83 (upd (A 83) 1 v)) := by
    unfold sq_seed;  skip <;> (try rfl)
  exact kret _ _ _ _ dX7_seed_17 ⟨zu M 1 8 v, N, rfl, by rw [hS], by rw [hS]; exact hR.now (hR.1.fld (r := 1) (k := 8) (v := 1) (x := v) (by decide)) (fun j hj => ((zFr.rf (r := 1) (M := M)).zu (i := 1) ⟨by omega, by omega⟩) j (by omega)) (fun j hj => (fun j _ => rfl : zFrN 1 N N) j (by omega)), (zHi.rf (M := M)).fr ((zFr.rf (r := 1) (M := M)).zu (i := 1) ⟨by omega, by omega⟩) (by decide)⟩

set_option maxHeartbeats 4000000 in
set_option maxRecDepth 100000 in
theorem k_drive {B : zB} (hB : znn B = 95) (M : zM) (N : zN) (A : zM) (w : Int32) (c : Int32) (hR : zRl M N A) (hok : zOkAll (A 83)) : zCi B (zg B M N) yX7_drive cX7_drive 4 (some .int) 1 [zref B 0, .int w, .int c] (fun r g' => ∃ (M1 : zM) (N1 : zN), g' = zg B M1 N1 ∧ r = (sq_drive A w c).1 ∧ zRl M1 N1 (sq_drive A w c).2 ∧ zHi M M1) := by
  refine zCi_of (by decide +kernel) (Nat.le_of_ble_eq_true rfl) .int rfl (fun _ _ _ => rfl) ?_
  intro X o kret
  show zW X B (zg B M N) 0 [(0, zref B 0), (1, .int w), (2, .int c)] []
  obtain ⟨hnf, hnf4⟩ := ok_nf2 hok.1
  obtain ⟨hnc, hnc6⟩ := ok_nc2 hok.1
  obtain ⟨hnt, hnt60⟩ := ok_nt2 hok.1
  obtain ⟨hnw, hnw24⟩ := ok_nw2 hok.1
  have hF : ∀ i, i < 4 → zFn (9 + 2 * i) M (A 83) i := fun i hi => hR.1.2.1 i hi
  refine z_aload_n (j := 0) o dX7_drive_0 rfl ?_
  refine z_iload_n (j := 1) o dX7_drive_1 rfl ?_
  refine z_callVi (As := [.int w]) (n := 1) (st := []) o dX7_drive_2 (c_X7_isCow hB M N A w hR hok.1) zc_X7_152 (by decide) (i := 0) (by rw [hB]; exact zsh_lt rfl (by decide)) (zg_o rfl (by decide)) rfl rfl rfl (Nat.le_of_ble_eq_true rfl) (fun r1 g2 p3 => ?_)
  obtain ⟨rfl, rfl⟩ := p3
  refine z_ifeq (tgt := 15) o dX7_drive_5 (by decide) (fun c4 => ?_) (fun c4 => ?_)
  · refine z_aload_n (j := 0) o dX7_drive_15 rfl ?_
    refine z_iconst (v := 1) o dX7_drive_16 (by decide) ?_
    refine z_callVi (As := [.int 1]) (n := 1) (st := []) o dX7_drive_17 (c_X7_error hB M N 1 (by decide) (by decide)) zc_X7_54 (by decide) (i := 0) (by rw [hB]; exact zsh_lt rfl (by decide)) (zg_o rfl (by decide)) rfl rfl rfl (Nat.le_of_ble_eq_true rfl) (fun r5 g6 p7 => ?_)
    obtain ⟨rfl, rfl⟩ := p7
    have hS : sq_drive A w c = ((zE 1), zEr A 1) := by
      unfold sq_drive;  rw [if_pos c4] <;> (try rfl)
    exact kret _ _ _ _ dX7_drive_20 ⟨zu M 73 1 (M 73 1 + 1), N, rfl, by rw [hS], by rw [hS]; exact (hR).er (k := 1) (by decide), ((zHi.rf (M := M))).zu (by decide)⟩
  · have hzw := c4
    rw [hnc] at hzw
    obtain ⟨wa, hwa, ewa⟩ := zin_nat (by omega) hzw
    subst ewa
    refine z_iload_n (j := 2) o dX7_drive_8 rfl ?_
    refine z_callSi (As := [.int c]) (n := 1) (st := []) o dX7_drive_9 (c_X1_isCell hB M N c) zc_X7_75 (by decide) rfl rfl (Nat.le_of_ble_eq_true rfl) (fun r8 g9 p10 => ?_)
    obtain ⟨rfl, rfl⟩ := p10
    refine zo_rw (y := zin c 0 63) (cg_cell_eq _) ?_
    refine z_ifne (tgt := 21) o dX7_drive_12 (by decide) (fun c11 => ?_) (fun c11 => ?_)
    · refine z_aload_n (j := 0) o dX7_drive_21 rfl ?_
      refine zo_get (i := 0) o hB dX7_drive_22 zf_X7_10 rfl (by decide) (rfl) ?_
      refine zo_get (i := 1) o hB dX7_drive_25 zf_X7_146 rfl (by decide) (rfl) ?_
      refine z_iload_n (j := 1) o dX7_drive_28 rfl ?_
      refine zo_iald (i := 3) (j := wa) o hB dX7_drive_29 rfl (show wa < 6 by omega) (by decide) ?_
      refine zo_rw (y := A 83 (58 + 2 * wa)) ((hR.1.2.2.1 wa (by omega)).1) ?_
      refine z_istore_n (i := 3) (lv2 := [(3, .int (A 83 (58 + 2 * wa))), (0, zref B 0), (1, .int (nI wa)), (2, .int c)]) o dX7_drive_30 rfl (by decide) rfl ?_
      refine z_aload_n (j := 1) o dX7_drive_31 rfl ?_
      refine zo_get (i := 0) o hB dX7_drive_32 zf_X7_10 rfl (by decide) (rfl) ?_
      refine zo_get (i := 1) o hB dX7_drive_35 zf_X7_146 rfl (by decide) (rfl) ?_
      refine z_iload_n (j := 2) o dX7_drive_38 rfl ?_
      refine z_iload_n (j := 3) o dX7_drive_39 rfl ?_
      refine zo_iast (i := 3) (j := wa) o hB dX7_drive_40 rfl (show wa < 6 by omega) (by decide) ?_
      refine z_iload_n (j := 0) o dX7_drive_41 rfl ?_
      have hrho : upd (A 83) (58 + 2 * wa + 0) c = upd (A 83) (58 + 2 * wa) c := by
        rfl
      have hS : sq_drive A (nI wa) c = ((A 83 (58 + 2 * wa)), va_up A 83 (upd (A 83) (58 + 2 * wa) c)) := by
        unfold sq_drive; (try rw [zn_nI (n := wa) (by omega)]); rw [if_neg c4, if_neg c11] <;> (try rfl)
      exact kret _ _ _ _ dX7_drive_42 ⟨zu M 3 wa c, N, rfl, by rw [hS], by rw [hS]; exact hR.now (hrho ▸ (hR.1.cat (r := 1) (t := 0) (k := wa) (v := c) (by decide) (by omega))) (fun j hj => ((zFr.rf (r := 1) (M := M)).zu (i := 3) ⟨by omega, by omega⟩) j (by omega)) (fun j hj => (fun j _ => rfl : zFrN 1 N N) j (by omega)), (zHi.rf (M := M)).fr ((zFr.rf (r := 1) (M := M)).zu (i := 3) ⟨by omega, by omega⟩) (by decide)⟩
    · refine z_aload_n (j := 0) o dX7_drive_15 rfl ?_
      refine z_iconst (v := 1) o dX7_drive_16 (by decide) ?_
      refine z_callVi (As := [.int 1]) (n := 1) (st := []) o dX7_drive_17 (c_X7_error hB M N 1 (by decide) (by decide)) zc_X7_54 (by decide) (i := 0) (by rw [hB]; exact zsh_lt rfl (by decide)) (zg_o rfl (by decide)) rfl rfl rfl (Nat.le_of_ble_eq_true rfl) (fun r12 g13 p14 => ?_)
      obtain ⟨rfl, rfl⟩ := p14
      have hS : sq_drive A (nI wa) c = ((zE 1), zEr A 1) := by
        unfold sq_drive; (try rw [zn_nI (n := wa) (by omega)]); rw [if_neg c4, if_pos c11] <;> (try rfl)
      exact kret _ _ _ _ dX7_drive_20 ⟨zu M 73 1 (M 73 1 + 1), N, rfl, by rw [hS], by rw [hS]; exact (hR).er (k := 1) (by decide), ((zHi.rf (M := M))).zu (by decide)⟩

theorem upd_comm {f : Nat → Int32} {a b : Nat} {v w : Int32} (h : a ≠ b) : upd (upd f a v) b w = upd (upd f b w) a v := by
  funext j; unfold upd
  by_cases q : j = a
  · subst q; simp [h]
  · simp [q]
theorem as_eq {α : Type} {K kd : Int32} {x y : α} : (if kd = 0 then x else if kd = K then x else if kd = 1 then (if K = 4 then x else if kd = 2 then (if K = 5 then x else y) else y) else if kd = 2 then (if K = 5 then x else y) else y) = if cg_kind K kd = 0 then y else x := by
  unfold cg_kind
  by_cases h1 : kd = 0
  · subst h1
    by_cases h2 : K = 0
    · subst h2; rfl
    · simp [h2]
  · by_cases h2 : kd = K
    · subst h2; simp [h1]
    · by_cases h3 : kd = 1
      · subst h3
        by_cases h4 : K = 4
        · subst h4; rfl
        · by_cases h5 : K = 5
          · subst h5; rfl
          · simp [h4, h5, h2, Ne.symm h2]
      · by_cases h6 : kd = 2
        · subst h6
          by_cases h4 : K = 4
          · subst h4; rfl
          · by_cases h5 : K = 5
            · subst h5; rfl
            · simp [h4, h5, h2, Ne.symm h2]
        · by_cases h4 : K = 4
          · subst h4; simp [h1, h2, h3, h6, Ne.symm h2, Ne.symm h1, Ne.symm h3]
          · by_cases h5 : K = 5
            · subst h5; simp [h1, h2, h3, h6, Ne.symm h2, Ne.symm h1, Ne.symm h3, Ne.symm h6]
            · simp [h1, h2, h3, h6, h4, h5, Ne.symm h2, Ne.symm h1]
set_option maxHeartbeats 4000000 in
set_option maxRecDepth 100000 in
theorem k_become {B : zB} (hB : znn B = 95) (M : zM) (N : zN) (A : zM) (f : Int32) (km : Int32) (hR : zRl M N A) (hok : zOkAll (A 83)) : zCi B (zg B M N) yX7_become cX7_become 5 (some .int) 1 [zref B 0, .int f, .int km] (fun r g' => ∃ (M1 : zM) (N1 : zN), g' = zg B M1 N1 ∧ r = (sq_become A f km).1 ∧ zRl M1 N1 (sq_become A f km).2 ∧ zHi M M1) := by
  refine zCi_of (by decide +kernel) (Nat.le_of_ble_eq_true rfl) .int rfl (fun _ _ _ => rfl) ?_
  intro X o kret
  show zW X B (zg B M N) 0 [(0, zref B 0), (1, .int f), (2, .int km)] []
  obtain ⟨hnf, hnf4⟩ := ok_nf2 hok.1
  obtain ⟨hnc, hnc6⟩ := ok_nc2 hok.1
  obtain ⟨hnt, hnt60⟩ := ok_nt2 hok.1
  obtain ⟨hnw, hnw24⟩ := ok_nw2 hok.1
  have hF : ∀ i, i < 4 → zFn (9 + 2 * i) M (A 83) i := fun i hi => hR.1.2.1 i hi
  refine z_aload_n (j := 0) o dX7_become_0 rfl ?_
  refine z_iload_n (j := 1) o dX7_become_1 rfl ?_
  refine z_callVi (As := [.int f]) (n := 1) (st := []) o dX7_become_2 (c_X7_isFence hB M N A f hR hok.1) zc_X7_72 (by decide) (i := 0) (by rw [hB]; exact zsh_lt rfl (by decide)) (zg_o rfl (by decide)) rfl rfl rfl (Nat.le_of_ble_eq_true rfl) (fun r1 g2 p3 => ?_)
  obtain ⟨rfl, rfl⟩ := p3
  refine z_ifeq (tgt := 15) o dX7_become_5 (by decide) (fun c4 => ?_) (fun c4 => ?_)
  · refine z_aload_n (j := 0) o dX7_become_15 rfl ?_
    refine z_iconst (v := 1) o dX7_become_16 (by decide) ?_
    refine z_callVi (As := [.int 1]) (n := 1) (st := []) o dX7_become_17 (c_X7_error hB M N 1 (by decide) (by decide)) zc_X7_54 (by decide) (i := 0) (by rw [hB]; exact zsh_lt rfl (by decide)) (zg_o rfl (by decide)) rfl rfl rfl (Nat.le_of_ble_eq_true rfl) (fun r5 g6 p7 => ?_)
    obtain ⟨rfl, rfl⟩ := p7
    have hS : sq_become A f km = ((zE 1), zEr A 1) := by
      unfold sq_become;  rw [if_pos c4] <;> (try rfl)
    exact kret _ _ _ _ dX7_become_20 ⟨zu M 73 1 (M 73 1 + 1), N, rfl, by rw [hS], by rw [hS]; exact (hR).er (k := 1) (by decide), ((zHi.rf (M := M))).zu (by decide)⟩
  · have hzf := c4
    rw [hnf] at hzf
    obtain ⟨fa, hfa, efa⟩ := zin_nat (by omega) hzf
    subst efa
    obtain ⟨hnpfa, hnp8⟩ := ok_np2 hok.1 (i := fa) (by omega)
    refine z_iload_n (j := 2) o dX7_become_8 rfl ?_
    refine z_callSi (As := [.int km]) (n := 1) (st := []) o dX7_become_9 (c_X7_isKm hB M N km) zc_X7_47 (by decide) rfl rfl (Nat.le_of_ble_eq_true rfl) (fun r8 g9 p10 => ?_)
    obtain ⟨rfl, rfl⟩ := p10
    refine z_ifne (tgt := 21) o dX7_become_12 (by decide) (fun c11 => ?_) (fun c11 => ?_)
    · refine z_aload_n (j := 0) o dX7_become_21 rfl ?_
      refine zo_get (i := 0) o hB dX7_become_22 zf_X7_10 rfl (by decide) (rfl) ?_
      refine zo_get (i := 1) o hB dX7_become_25 zf_X7_62 rfl (by decide) (rfl) ?_
      refine z_iload_n (j := 1) o dX7_become_28 rfl ?_
      refine zo_aldF (i := 2) (j := fa) o hB dX7_become_29 rfl (show fa < 4 by omega) (by decide) ?_
      refine z_astore_n (i := 3) (lv2 := [(3, zref B (9 + 2 * fa)), (0, zref B 0), (1, .int (nI fa)), (2, .int km)]) o dX7_become_30 rfl (by decide) rfl ?_
      refine z_aload_n (j := 0) o dX7_become_31 rfl ?_
      refine zo_get (i := 9 + 2 * fa) o hB dX7_become_32 zf_X7_86 ((zh_R (r := 1) rfl).2.2.2.2.2.2.2.1 fa (by omega)) (by decide) (rfl) ?_
      refine zo_rw (y := A 83 (6 + 13 * fa + 0)) ((hF fa (by omega)).2.1) ?_
      refine z_istore (i := 4) (lv2 := [(4, .int (A 83 (6 + 13 * fa + 0))), (3, zref B (9 + 2 * fa)), (0, zref B 0), (1, .int (nI fa)), (2, .int km)]) o dX7_become_35 (by decide) rfl ?_
      refine z_aload_n (j := 1) o dX7_become_37 rfl ?_
      refine z_iload_n (j := 4) o dX7_become_38 rfl ?_
      refine z_bipush (v := 10) o dX7_become_39 (by decide) ?_
      refine z_idiv o dX7_become_41 (by decide) ?_
      refine zo_put (i := 9 + 2 * fa) o hB dX7_become_42 zp_X7_86 ((zh_R (r := 1) rfl).2.2.2.2.2.2.2.1 fa (by omega)) (by decide) (by decide) (Nat.le_of_ble_eq_true rfl) ?_
      refine z_aload_n (j := 1) o dX7_become_45 rfl ?_
      refine z_iload_n (j := 4) o dX7_become_46 rfl ?_
      refine z_bipush (v := 10) o dX7_become_47 (by decide) ?_
      refine z_irem o dX7_become_49 (by decide) ?_
      refine zo_put (i := 9 + 2 * fa) o hB dX7_become_50 zp_X7_89 ((zh_R (r := 1) rfl).2.2.2.2.2.2.2.1 fa (by omega)) (by decide) (by decide) (Nat.le_of_ble_eq_true rfl) ?_
      refine z_iload (j := 0) o dX7_become_53 rfl ?_
      have hrho : upd (upd (A 83) (6 + 13 * fa + 0) (km / 10)) (6 + 13 * fa + 1) (km - km / 10 * 10) = upd (upd (A 83) (6 + 13 * fa + 1) (zirem km 10)) (6 + 13 * fa) (km / 10) := by
        exact upd_comm (f := A 83) (a := 6 + 13 * fa) (b := 6 + 13 * fa + 1) (by omega)
      have hS : sq_become A (nI fa) km = ((A 83 (6 + 13 * fa + 0)), va_up A 83 (upd (upd (A 83) (6 + 13 * fa + 1) (zirem km 10)) (6 + 13 * fa) (km / 10))) := by
        unfold sq_become; (try rw [zn_nI (n := fa) (by omega)]); rw [if_neg c4, if_neg c11] <;> (try rfl)
      exact kret _ _ _ _ dX7_become_55 ⟨zu (zu M (9 + 2 * fa) 2 (km / 10)) (9 + 2 * fa) 3 (km - km / 10 * 10), N, rfl, by rw [hS], by rw [hS]; exact hR.now (hrho ▸ ((hR.1.f1 (r := 1) (i := fa) (k := 2) (v := 0) (x := (km / 10)) (by omega) (by decide)).f1 (r := 1) (i := fa) (k := 3) (v := 1) (x := (km - km / 10 * 10)) (by omega) (by decide))) (fun j hj => (((zFr.rf (r := 1) (M := M)).zu (i := 9 + 2 * fa) ⟨by omega, by omega⟩).zu (i := 9 + 2 * fa) ⟨by omega, by omega⟩) j (by omega)) (fun j hj => (fun j _ => rfl : zFrN 1 N N) j (by omega)), (zHi.rf (M := M)).fr (((zFr.rf (r := 1) (M := M)).zu (i := 9 + 2 * fa) ⟨by omega, by omega⟩).zu (i := 9 + 2 * fa) ⟨by omega, by omega⟩) (by decide)⟩
    · refine z_aload_n (j := 0) o dX7_become_15 rfl ?_
      refine z_iconst (v := 1) o dX7_become_16 (by decide) ?_
      refine z_callVi (As := [.int 1]) (n := 1) (st := []) o dX7_become_17 (c_X7_error hB M N 1 (by decide) (by decide)) zc_X7_54 (by decide) (i := 0) (by rw [hB]; exact zsh_lt rfl (by decide)) (zg_o rfl (by decide)) rfl rfl rfl (Nat.le_of_ble_eq_true rfl) (fun r12 g13 p14 => ?_)
      obtain ⟨rfl, rfl⟩ := p14
      have hS : sq_become A (nI fa) km = ((zE 1), zEr A 1) := by
        unfold sq_become; (try rw [zn_nI (n := fa) (by omega)]); rw [if_neg c4, if_pos c11] <;> (try rfl)
      exact kret _ _ _ _ dX7_become_20 ⟨zu M 73 1 (M 73 1 + 1), N, rfl, by rw [hS], by rw [hS]; exact (hR).er (k := 1) (by decide), ((zHi.rf (M := M))).zu (by decide)⟩

set_option maxHeartbeats 4000000 in
set_option maxRecDepth 100000 in
theorem k_as {B : zB} (hB : znn B = 95) (M : zM) (N : zN) (A : zM) (f : Int32) (kd : Int32) (hR : zRl M N A) (hok : zOkAll (A 83)) : zCi B (zg B M N) yX7_as cX7_as 4 (some .int) 2 [zref B 0, .int f, .int kd] (fun r g' => ∃ (M1 : zM) (N1 : zN), g' = zg B M1 N1 ∧ r = (sq_as A f kd).1 ∧ zRl M1 N1 (sq_as A f kd).2 ∧ zHi M M1) := by
  refine zCi_of (by decide +kernel) (Nat.le_of_ble_eq_true rfl) .int rfl (fun _ _ _ => rfl) ?_
  intro X o kret
  show zW X B (zg B M N) 0 [(0, zref B 0), (1, .int f), (2, .int kd)] []
  obtain ⟨hnf, hnf4⟩ := ok_nf2 hok.1
  obtain ⟨hnc, hnc6⟩ := ok_nc2 hok.1
  obtain ⟨hnt, hnt60⟩ := ok_nt2 hok.1
  obtain ⟨hnw, hnw24⟩ := ok_nw2 hok.1
  have hF : ∀ i, i < 4 → zFn (9 + 2 * i) M (A 83) i := fun i hi => hR.1.2.1 i hi
  refine z_aload_n (j := 0) o dX7_as_0 rfl ?_
  refine z_iload_n (j := 1) o dX7_as_1 rfl ?_
  refine z_callVi (As := [.int f]) (n := 1) (st := []) o dX7_as_2 (c_X7_isFence hB M N A f hR hok.1) zc_X7_72 (by decide) (i := 0) (by rw [hB]; exact zsh_lt rfl (by decide)) (zg_o rfl (by decide)) rfl rfl rfl (Nat.le_of_ble_eq_true rfl) (fun r1 g2 p3 => ?_)
  obtain ⟨rfl, rfl⟩ := p3
  refine z_ifeq (tgt := 18) o dX7_as_5 (by decide) (fun c4 => ?_) (fun c4 => ?_)
  · refine z_aload_n (j := 0) o dX7_as_18 rfl ?_
    refine z_iconst (v := 1) o dX7_as_19 (by decide) ?_
    refine z_callVi (As := [.int 1]) (n := 1) (st := []) o dX7_as_20 (c_X7_error hB M N 1 (by decide) (by decide)) zc_X7_54 (by decide) (i := 0) (by rw [hB]; exact zsh_lt rfl (by decide)) (zg_o rfl (by decide)) rfl rfl rfl (Nat.le_of_ble_eq_true rfl) (fun r5 g6 p7 => ?_)
    obtain ⟨rfl, rfl⟩ := p7
    have hS : sq_as A f kd = ((zE 1), zEr A 1) := by
      unfold sq_as;  rw [if_pos c4] <;> (try rfl)
    exact kret _ _ _ _ dX7_as_23 ⟨zu M 73 1 (M 73 1 + 1), N, rfl, by rw [hS], by rw [hS]; exact (hR).er (k := 1) (by decide), ((zHi.rf (M := M))).zu (by decide)⟩
  · have hzf := c4
    rw [hnf] at hzf
    obtain ⟨fa, hfa, efa⟩ := zin_nat (by omega) hzf
    subst efa
    obtain ⟨hnpfa, hnp8⟩ := ok_np2 hok.1 (i := fa) (by omega)
    refine z_iload_n (j := 2) o dX7_as_8 rfl ?_
    refine z_iflt (tgt := 18) o dX7_as_9 (by decide) (fun c8 => ?_) (fun c8 => ?_)
    · refine z_aload_n (j := 0) o dX7_as_18 rfl ?_
      refine z_iconst (v := 1) o dX7_as_19 (by decide) ?_
      refine z_callVi (As := [.int 1]) (n := 1) (st := []) o dX7_as_20 (c_X7_error hB M N 1 (by decide) (by decide)) zc_X7_54 (by decide) (i := 0) (by rw [hB]; exact zsh_lt rfl (by decide)) (zg_o rfl (by decide)) rfl rfl rfl (Nat.le_of_ble_eq_true rfl) (fun r9 g10 p11 => ?_)
      obtain ⟨rfl, rfl⟩ := p11
      have hS : sq_as A (nI fa) kd = ((zE 1), zEr A 1) := by
        unfold sq_as; (try rw [zn_nI (n := fa) (by omega)]); rw [if_neg c4, if_pos (zin_lo c8)] <;> (try rfl)
      exact kret _ _ _ _ dX7_as_23 ⟨zu M 73 1 (M 73 1 + 1), N, rfl, by rw [hS], by rw [hS]; exact (hR).er (k := 1) (by decide), ((zHi.rf (M := M))).zu (by decide)⟩
    · refine z_iload_n (j := 2) o dX7_as_12 rfl ?_
      refine z_bipush (v := 6) o dX7_as_13 (by decide) ?_
      refine z_icmple (tgt := 24) o dX7_as_15 (by decide) (fun c12 => ?_) (fun c12 => ?_)
      · refine z_aload_n (j := 0) o dX7_as_24 rfl ?_
        refine zo_get (i := 0) o hB dX7_as_25 zf_X7_10 rfl (by decide) (rfl) ?_
        refine zo_get (i := 1) o hB dX7_as_28 zf_X7_62 rfl (by decide) (rfl) ?_
        refine z_iload_n (j := 1) o dX7_as_31 rfl ?_
        refine zo_aldF (i := 2) (j := fa) o hB dX7_as_32 rfl (show fa < 4 by omega) (by decide) ?_
        refine z_astore_n (i := 3) (lv2 := [(3, zref B (9 + 2 * fa)), (0, zref B 0), (1, .int (nI fa)), (2, .int kd)]) o dX7_as_33 rfl (by decide) rfl ?_
        obtain ⟨kdn, hkd, ekd⟩ := ok_f hok.1 (i := fa) (j := 0) (by omega) (by decide)
        have hkd6 : kdn ≤ 6 := hkd
        refine z_aload_n (j := 0) o dX7_as_34 rfl ?_
        refine zo_get (i := 9 + 2 * fa) o hB dX7_as_35 zf_X7_86 ((zh_R (r := 1) rfl).2.2.2.2.2.2.2.1 fa (by omega)) (by decide) (rfl) ?_
        refine zo_rw (y := nI kdn) ((hF fa (by omega)).2.1.trans ekd) ?_
        refine z_iload_n (j := 3) o dX7_as_38 rfl ?_
        refine z_callSi (As := [.int (nI kdn), .int kd]) (n := 2) (st := []) o dX7_as_39 (c_X7_isOfKind hB M N kdn kd (by omega)) zc_X7_123 (by decide) rfl rfl (Nat.le_of_ble_eq_true rfl) (fun r13 g14 p15 => ?_)
        obtain ⟨rfl, rfl⟩ := p15
        refine z_ifeq (tgt := 52) o dX7_as_42 (by decide) (fun c16 => ?_) (fun c16 => ?_)
        · refine z_aload_n (j := 1) o dX7_as_52 rfl ?_
          refine z_iconst (v := 5) o dX7_as_53 (by decide) ?_
          refine z_callVi (As := [.int 5]) (n := 1) (st := []) o dX7_as_54 (c_X7_error hB M N 5 (by decide) (by decide)) zc_X7_54 (by decide) (i := 0) (by rw [hB]; exact zsh_lt rfl (by decide)) (zg_o rfl (by decide)) rfl rfl rfl (Nat.le_of_ble_eq_true rfl) (fun r17 g18 p19 => ?_)
          obtain ⟨rfl, rfl⟩ := p19
          have hS : sq_as A (nI fa) kd = ((zE 5), zEr A 5) := by
            unfold sq_as; (try rw [zn_nI (n := fa) (by omega)]); rw [if_neg c4, if_neg (zin_in c8 c12), as_eq, ekd, if_pos c16] <;> (try rfl)
          exact kret _ _ _ _ dX7_as_57 ⟨zu M 73 5 (M 73 5 + 1), N, rfl, by rw [hS], by rw [hS]; exact (hR).er (k := 5) (by decide), ((zHi.rf (M := M))).zu (by decide)⟩
        · refine z_aload_n (j := 0) o dX7_as_45 rfl ?_
          refine zo_get (i := 9 + 2 * fa) o hB dX7_as_46 zf_X7_89 ((zh_R (r := 1) rfl).2.2.2.2.2.2.2.1 fa (by omega)) (by decide) (rfl) ?_
          refine zo_rw (y := A 83 (6 + 13 * fa + 1)) ((hF fa (by omega)).2.2.1) ?_
          refine z_goto (tgt := 57) o dX7_as_49 (by decide) ?_
          have hS : sq_as A (nI fa) kd = ((A 83 (6 + 13 * fa + 1)), A) := by
            unfold sq_as; (try rw [zn_nI (n := fa) (by omega)]); rw [if_neg c4, if_neg (zin_in c8 c12), as_eq, ekd, if_neg c16] <;> (try rfl)
          exact kret _ _ _ _ dX7_as_57 ⟨M, N, rfl, by rw [hS], by rw [hS]; exact hR, (zHi.rf (M := M))⟩
      · refine z_aload_n (j := 0) o dX7_as_18 rfl ?_
        refine z_iconst (v := 1) o dX7_as_19 (by decide) ?_
        refine z_callVi (As := [.int 1]) (n := 1) (st := []) o dX7_as_20 (c_X7_error hB M N 1 (by decide) (by decide)) zc_X7_54 (by decide) (i := 0) (by rw [hB]; exact zsh_lt rfl (by decide)) (zg_o rfl (by decide)) rfl rfl rfl (Nat.le_of_ble_eq_true rfl) (fun r20 g21 p22 => ?_)
        obtain ⟨rfl, rfl⟩ := p22
        have hS : sq_as A (nI fa) kd = ((zE 1), zEr A 1) := by
          unfold sq_as; (try rw [zn_nI (n := fa) (by omega)]); rw [if_neg c4, if_pos (zin_hi c12)] <;> (try rfl)
        exact kret _ _ _ _ dX7_as_23 ⟨zu M 73 1 (M 73 1 + 1), N, rfl, by rw [hS], by rw [hS]; exact (hR).er (k := 1) (by decide), ((zHi.rf (M := M))).zu (by decide)⟩

set_option maxHeartbeats 4000000 in
set_option maxRecDepth 100000 in
theorem k_cow {B : zB} (hB : znn B = 95) (M : zM) (N : zN) (A : zM) (c : Int32) (hR : zRl M N A) (hok : zOkAll (A 83)) : zCi B (zg B M N) yX7_cow cX7_cow 2 (some .int) 1 [zref B 0, .int c] (fun r g' => ∃ (M1 : zM) (N1 : zN), g' = zg B M1 N1 ∧ r = (sq_cow A c).1 ∧ zRl M1 N1 (sq_cow A c).2 ∧ zHi M M1) := by
  refine zCi_of (by decide +kernel) (Nat.le_of_ble_eq_true rfl) .int rfl (fun _ _ _ => rfl) ?_
  intro X o kret
  show zW X B (zg B M N) 0 [(0, zref B 0), (1, .int c)] []
  obtain ⟨hnf, hnf4⟩ := ok_nf2 hok.1
  obtain ⟨hnc, hnc6⟩ := ok_nc2 hok.1
  obtain ⟨hnt, hnt60⟩ := ok_nt2 hok.1
  obtain ⟨hnw, hnw24⟩ := ok_nw2 hok.1
  have hF : ∀ i, i < 4 → zFn (9 + 2 * i) M (A 83) i := fun i hi => hR.1.2.1 i hi
  refine z_iload_n (j := 1) o dX7_cow_0 rfl ?_
  refine z_callSi (As := [.int c]) (n := 1) (st := []) o dX7_cow_1 (c_X1_isCell hB M N c) zc_X7_75 (by decide) rfl rfl (Nat.le_of_ble_eq_true rfl) (fun r1 g2 p3 => ?_)
  obtain ⟨rfl, rfl⟩ := p3
  refine zo_rw (y := zin c 0 63) (cg_cell_eq _) ?_
  refine z_ifne (tgt := 13) o dX7_cow_4 (by decide) (fun c4 => ?_) (fun c4 => ?_)
  · obtain ⟨cc, hcc, ecc⟩ := zin_lit (n := 63) rfl (by decide) c4
    subst ecc
    refine z_aload_n (j := 0) o dX7_cow_13 rfl ?_
    refine zo_get (i := 0) o hB dX7_cow_14 zf_X7_10 rfl (by decide) (rfl) ?_
    refine zo_get (i := 1) o hB dX7_cow_17 zf_X7_143 rfl (by decide) (rfl) ?_
    refine zo_rw (y := nI (sp_nc (A 83))) (hR.1.1.2.1.trans hnc) ?_
    refine z_bipush (v := 6) o dX7_cow_20 (by decide) ?_
    refine z_icmplt (tgt := 31) o dX7_cow_22 (by decide) (fun c5 => ?_) (fun c5 => ?_)
    · have hfull22 := nI_ltI (b := 6) (by omega) (by decide) |>.mp c5
      refine z_aload_n (j := 0) o dX7_cow_31 rfl ?_
      refine zo_get (i := 0) o hB dX7_cow_32 zf_X7_10 rfl (by decide) (rfl) ?_
      refine zo_get (i := 1) o hB dX7_cow_35 zf_X7_146 rfl (by decide) (rfl) ?_
      refine z_aload_n (j := 0) o dX7_cow_38 rfl ?_
      refine zo_get (i := 0) o hB dX7_cow_39 zf_X7_10 rfl (by decide) (rfl) ?_
      refine zo_get (i := 1) o hB dX7_cow_42 zf_X7_143 rfl (by decide) (rfl) ?_
      refine zo_rw (y := nI (sp_nc (A 83))) (hR.1.1.2.1.trans hnc) ?_
      refine z_iload_n (j := 1) o dX7_cow_45 rfl ?_
      refine zo_iast (i := 3) (j := sp_nc (A 83)) o hB dX7_cow_46 rfl (show sp_nc (A 83) < 6 by omega) (by decide) ?_
      refine z_aload_n (j := 0) o dX7_cow_47 rfl ?_
      refine zo_get (i := 0) o hB dX7_cow_48 zf_X7_10 rfl (by decide) (rfl) ?_
      refine zo_get (i := 1) o hB dX7_cow_51 zf_X7_149 rfl (by decide) (rfl) ?_
      refine z_aload_n (j := 0) o dX7_cow_54 rfl ?_
      refine zo_get (i := 0) o hB dX7_cow_55 zf_X7_10 rfl (by decide) (rfl) ?_
      refine zo_get (i := 1) o hB dX7_cow_58 zf_X7_143 rfl (by decide) (rfl) ?_
      refine zo_rw (y := nI (sp_nc (A 83))) (by rw [zu_ne (by decide)]; exact hR.1.1.2.1.trans hnc) ?_
      refine z_iconst (v := 0) o dX7_cow_61 (by decide) ?_
      refine zo_iast (i := 4) (j := sp_nc (A 83)) o hB dX7_cow_62 rfl (show sp_nc (A 83) < 6 by omega) (by decide) ?_
      refine z_aload_n (j := 0) o dX7_cow_63 rfl ?_
      refine zo_get (i := 0) o hB dX7_cow_64 zf_X7_10 rfl (by decide) (rfl) ?_
      refine z_dup o dX7_cow_67 rfl ?_
      refine zo_get (i := 1) o hB dX7_cow_68 zf_X7_143 rfl (by decide) (rfl) ?_
      refine zo_rw (y := nI (sp_nc (A 83))) (by rw [zu_ne (by decide)]; exact (by rw [zu_ne (by decide)]; exact hR.1.1.2.1.trans hnc)) ?_
      refine z_iconst (v := 1) o dX7_cow_71 (by decide) ?_
      refine z_iadd o dX7_cow_72 ?_
      refine zo_rw (y := nI (sp_nc (A 83) + 1)) (zn_add (rfl) (rfl)) ?_
      refine zo_put (i := 1) o hB dX7_cow_73 zp_X7_143 rfl (by decide) (by decide) (Nat.le_of_ble_eq_true rfl) ?_
      refine z_aload_n (j := 0) o dX7_cow_76 rfl ?_
      refine zo_get (i := 0) o hB dX7_cow_77 zf_X7_10 rfl (by decide) (rfl) ?_
      refine zo_get (i := 1) o hB dX7_cow_80 zf_X7_143 rfl (by decide) (rfl) ?_
      refine zo_rw (y := nI (sp_nc (A 83) + 1)) (by rw [zu_at, upd_self]) ?_
      refine z_iconst (v := 1) o dX7_cow_83 (by decide) ?_
      refine z_isub o dX7_cow_84 ?_
      refine zo_rw (y := nI (sp_nc (A 83) + 1 - 1)) (zn_sub (rfl) (rfl) (by omega)) ?_
      have hrho : upd (upd (upd (A 83) (58 + 2 * (sp_nc (A 83)) + 0) (nI cc)) (58 + 2 * (sp_nc (A 83)) + 1) 0) 3 (nI (sp_nc (A 83) + 1)) = upd (upd (upd (A 83) 3 (nI (sp_nc (A 83) + 1))) (58 + 2 * sp_nc (A 83)) (nI cc)) (58 + 2 * sp_nc (A 83) + 1) 0 := by
        rw [upd_comm (f := upd (A 83) 3 (nI (sp_nc (A 83) + 1))) (a := 58 + 2 * sp_nc (A 83)) (b := 58 + 2 * sp_nc (A 83) + 1) (by omega)]
        rw [upd_comm (f := A 83) (a := 3) (b := 58 + 2 * sp_nc (A 83) + 1) (by omega)]
        rw [upd_comm (a := 3) (b := 58 + 2 * sp_nc (A 83)) (by omega)]
        rw [upd_comm (f := A 83) (a := 58 + 2 * sp_nc (A 83) + 1) (b := 58 + 2 * sp_nc (A 83)) (by omega)]
        rfl
      have hS : sq_cow A (nI cc) = ((nI (sp_nc (A 83) + 1 - 1)), va_up A 83 (upd (upd (upd (A 83) 3 (nI (sp_nc (A 83) + 1))) (58 + 2 * sp_nc (A 83)) (nI cc)) (58 + 2 * sp_nc (A 83) + 1) 0)) := by
        unfold sq_cow; (try rw [zn_nI (n := cc) (by omega)]); rw [if_neg c4, if_neg (show ¬ nI (sp_nc (A 83)) = 6 from full_ne (m := 6) (by decide) c5 (by omega))] <;> (try rfl)
      exact kret _ _ _ _ dX7_cow_85 ⟨zu (zu (zu M 3 (sp_nc (A 83)) (nI cc)) 4 (sp_nc (A 83)) 0) 1 4 (nI (sp_nc (A 83) + 1)), N, rfl, by rw [hS], by rw [hS]; exact hR.now (hrho ▸ (((hR.1.cat (r := 1) (t := 0) (k := (sp_nc (A 83))) (v := (nI cc)) (by decide) (by omega)).cat (r := 1) (t := 1) (k := (sp_nc (A 83))) (v := 0) (by decide) (by omega)).fld (r := 1) (k := 4) (v := 3) (x := (nI (sp_nc (A 83) + 1))) (by decide))) (fun j hj => ((((zFr.rf (r := 1) (M := M)).zu (i := 3) ⟨by omega, by omega⟩).zu (i := 4) ⟨by omega, by omega⟩).zu (i := 1) ⟨by omega, by omega⟩) j (by omega)) (fun j hj => (fun j _ => rfl : zFrN 1 N N) j (by omega)), (zHi.rf (M := M)).fr ((((zFr.rf (r := 1) (M := M)).zu (i := 3) ⟨by omega, by omega⟩).zu (i := 4) ⟨by omega, by omega⟩).zu (i := 1) ⟨by omega, by omega⟩) (by decide)⟩
    · refine z_aload_n (j := 0) o dX7_cow_25 rfl ?_
      refine z_iconst (v := 4) o dX7_cow_26 (by decide) ?_
      refine z_callVi (As := [.int 4]) (n := 1) (st := []) o dX7_cow_27 (c_X7_error hB M N 4 (by decide) (by decide)) zc_X7_54 (by decide) (i := 0) (by rw [hB]; exact zsh_lt rfl (by decide)) (zg_o rfl (by decide)) rfl rfl rfl (Nat.le_of_ble_eq_true rfl) (fun r6 g7 p8 => ?_)
      obtain ⟨rfl, rfl⟩ := p8
      have hS : sq_cow A (nI cc) = ((zE 4), zEr A 4) := by
        unfold sq_cow; (try rw [zn_nI (n := cc) (by omega)]); rw [if_neg c4, if_pos (show nI (sp_nc (A 83)) = 6 from full_eq (m := 6) (by omega) (by decide) c5)] <;> (try rfl)
      exact kret _ _ _ _ dX7_cow_30 ⟨zu M 73 4 (M 73 4 + 1), N, rfl, by rw [hS], by rw [hS]; exact (hR).er (k := 4) (by decide), ((zHi.rf (M := M))).zu (by decide)⟩
  · refine z_aload_n (j := 0) o dX7_cow_7 rfl ?_
    refine z_iconst (v := 1) o dX7_cow_8 (by decide) ?_
    refine z_callVi (As := [.int 1]) (n := 1) (st := []) o dX7_cow_9 (c_X7_error hB M N 1 (by decide) (by decide)) zc_X7_54 (by decide) (i := 0) (by rw [hB]; exact zsh_lt rfl (by decide)) (zg_o rfl (by decide)) rfl rfl rfl (Nat.le_of_ble_eq_true rfl) (fun r9 g10 p11 => ?_)
    obtain ⟨rfl, rfl⟩ := p11
    have hS : sq_cow A c = ((zE 1), zEr A 1) := by
      unfold sq_cow;  rw [if_pos c4] <;> (try rfl)
    exact kret _ _ _ _ dX7_cow_12 ⟨zu M 73 1 (M 73 1 + 1), N, rfl, by rw [hS], by rw [hS]; exact (hR).er (k := 1) (by decide), ((zHi.rf (M := M))).zu (by decide)⟩

set_option maxHeartbeats 4000000 in
set_option maxRecDepth 100000 in
theorem k_fence {B : zB} (hB : znn B = 95) (M : zM) (N : zN) (A : zM) (km : Int32) (hd : Int32) (hR : zRl M N A) (hok : zOkAll (A 83)) : zCi B (zg B M N) yX7_fence cX7_fence 3 (some .int) 1 [zref B 0, .int km, .int hd] (fun r g' => ∃ (M1 : zM) (N1 : zN), g' = zg B M1 N1 ∧ r = (sq_fence A km hd).1 ∧ zRl M1 N1 (sq_fence A km hd).2 ∧ zHi M M1) := by
  refine zCi_of (by decide +kernel) (Nat.le_of_ble_eq_true rfl) .int rfl (fun _ _ _ => rfl) ?_
  intro X o kret
  show zW X B (zg B M N) 0 [(0, zref B 0), (1, .int km), (2, .int hd)] []
  obtain ⟨hnf, hnf4⟩ := ok_nf2 hok.1
  obtain ⟨hnc, hnc6⟩ := ok_nc2 hok.1
  obtain ⟨hnt, hnt60⟩ := ok_nt2 hok.1
  obtain ⟨hnw, hnw24⟩ := ok_nw2 hok.1
  have hF : ∀ i, i < 4 → zFn (9 + 2 * i) M (A 83) i := fun i hi => hR.1.2.1 i hi
  refine z_iload_n (j := 1) o dX7_fence_0 rfl ?_
  refine z_callSi (As := [.int km]) (n := 1) (st := []) o dX7_fence_1 (c_X7_isKm hB M N km) zc_X7_47 (by decide) rfl rfl (Nat.le_of_ble_eq_true rfl) (fun r1 g2 p3 => ?_)
  obtain ⟨rfl, rfl⟩ := p3
  refine z_ifeq (tgt := 14) o dX7_fence_4 (by decide) (fun c4 => ?_) (fun c4 => ?_)
  · refine z_aload_n (j := 0) o dX7_fence_14 rfl ?_
    refine z_iconst (v := 1) o dX7_fence_15 (by decide) ?_
    refine z_callVi (As := [.int 1]) (n := 1) (st := []) o dX7_fence_16 (c_X7_error hB M N 1 (by decide) (by decide)) zc_X7_54 (by decide) (i := 0) (by rw [hB]; exact zsh_lt rfl (by decide)) (zg_o rfl (by decide)) rfl rfl rfl (Nat.le_of_ble_eq_true rfl) (fun r5 g6 p7 => ?_)
    obtain ⟨rfl, rfl⟩ := p7
    have hS : sq_fence A km hd = ((zE 1), zEr A 1) := by
      unfold sq_fence;  rw [if_pos c4] <;> (try rfl)
    exact kret _ _ _ _ dX7_fence_19 ⟨zu M 73 1 (M 73 1 + 1), N, rfl, by rw [hS], by rw [hS]; exact (hR).er (k := 1) (by decide), ((zHi.rf (M := M))).zu (by decide)⟩
  · refine z_iload_n (j := 2) o dX7_fence_7 rfl ?_
    refine z_callSi (As := [.int hd]) (n := 1) (st := []) o dX7_fence_8 (c_X7_isWay hB M N hd) zc_X7_51 (by decide) rfl rfl (Nat.le_of_ble_eq_true rfl) (fun r8 g9 p10 => ?_)
    obtain ⟨rfl, rfl⟩ := p10
    refine z_ifne (tgt := 20) o dX7_fence_11 (by decide) (fun c11 => ?_) (fun c11 => ?_)
    · refine z_aload_n (j := 0) o dX7_fence_20 rfl ?_
      refine zo_get (i := 0) o hB dX7_fence_21 zf_X7_10 rfl (by decide) (rfl) ?_
      refine zo_get (i := 1) o hB dX7_fence_24 zf_X7_58 rfl (by decide) (rfl) ?_
      refine zo_rw (y := nI (sp_nf (A 83))) (hR.1.1.1.trans hnf) ?_
      refine z_iconst (v := 4) o dX7_fence_27 (by decide) ?_
      refine z_icmplt (tgt := 37) o dX7_fence_28 (by decide) (fun c12 => ?_) (fun c12 => ?_)
      · have hfull28 := nI_ltI (b := 4) (by omega) (by decide) |>.mp c12
        refine z_aload_n (j := 0) o dX7_fence_37 rfl ?_
        refine zo_get (i := 0) o hB dX7_fence_38 zf_X7_10 rfl (by decide) (rfl) ?_
        refine zo_get (i := 1) o hB dX7_fence_41 zf_X7_62 rfl (by decide) (rfl) ?_
        refine z_aload_n (j := 0) o dX7_fence_44 rfl ?_
        refine zo_get (i := 0) o hB dX7_fence_45 zf_X7_10 rfl (by decide) (rfl) ?_
        refine zo_get (i := 1) o hB dX7_fence_48 zf_X7_58 rfl (by decide) (rfl) ?_
        refine zo_rw (y := nI (sp_nf (A 83))) (hR.1.1.1.trans hnf) ?_
        refine zo_aldF (i := 2) (j := sp_nf (A 83)) o hB dX7_fence_51 rfl (show sp_nf (A 83) < 4 by omega) (by decide) ?_
        refine z_iload_n (j := 1) o dX7_fence_52 rfl ?_
        refine z_iload_n (j := 2) o dX7_fence_53 rfl ?_
        refine z_callVv (As := [.int km, .int hd]) (n := 2) (st := []) o dX7_fence_54 (c_X0_begin hB M N (9 + 2 * (sp_nf (A 83))) km hd ((zh_R (r := 1) rfl).2.2.2.2.2.2.2.1 (sp_nf (A 83)) (by omega))) zc_X7_66 (by decide) (i := 9 + 2 * (sp_nf (A 83))) (by rw [hB]; exact zsh_lt ((zh_R (r := 1) rfl).2.2.2.2.2.2.2.1 (sp_nf (A 83)) (by omega)) (by decide)) (zg_o ((zh_R (r := 1) rfl).2.2.2.2.2.2.2.1 (sp_nf (A 83)) (by omega)) (by decide)) rfl rfl rfl (Nat.le_of_ble_eq_true rfl) (fun g14 p15 => ?_)
        cases p15
        refine z_aload_n (j := 0) o dX7_fence_57 rfl ?_
        refine zo_get (i := 0) o hB dX7_fence_58 zf_X7_10 rfl (by decide) (rfl) ?_
        refine z_dup o dX7_fence_61 rfl ?_
        refine zo_get (i := 1) o hB dX7_fence_62 zf_X7_58 rfl (by decide) (rfl) ?_
        refine zo_rw (y := nI (sp_nf (A 83))) (by unfold bg_M; rw [zu_ne (by omega), zu_ne (by omega), zu_ne (by omega), zu_ne (by omega), zu_ne (by omega)]; exact hR.1.1.1.trans hnf) ?_
        refine z_iconst (v := 1) o dX7_fence_65 (by decide) ?_
        refine z_iadd o dX7_fence_66 ?_
        refine zo_rw (y := nI (sp_nf (A 83) + 1)) (zn_add (rfl) (rfl)) ?_
        refine zo_put (i := 1) o hB dX7_fence_67 zp_X7_58 rfl (by decide) (by decide) (Nat.le_of_ble_eq_true rfl) ?_
        refine z_aload_n (j := 0) o dX7_fence_70 rfl ?_
        refine zo_get (i := 0) o hB dX7_fence_71 zf_X7_10 rfl (by decide) (rfl) ?_
        refine zo_get (i := 1) o hB dX7_fence_74 zf_X7_58 rfl (by decide) (rfl) ?_
        refine zo_rw (y := nI (sp_nf (A 83) + 1)) (by rw [zu_at, upd_self]) ?_
        refine z_iconst (v := 1) o dX7_fence_77 (by decide) ?_
        refine z_isub o dX7_fence_78 ?_
        refine zo_rw (y := nI (sp_nf (A 83) + 1 - 1)) (zn_sub (rfl) (rfl) (by omega)) ?_
        have hrho : upd (upd (upd (upd (upd (upd (A 83) (6 + 13 * sp_nf (A 83) + 0) (km / 10)) (6 + 13 * sp_nf (A 83) + 1) (km - km / 10 * 10)) (6 + 13 * sp_nf (A 83) + 2) hd) (6 + 13 * sp_nf (A 83) + 3) 0) (6 + 13 * sp_nf (A 83) + 4) 0) 2 (nI (sp_nf (A 83) + 1)) = upd (upd (upd (upd (upd (upd (A 83) 2 (nI (sp_nf (A 83) + 1))) (6 + 13 * sp_nf (A 83) + 0) (km / 10)) (6 + 13 * sp_nf (A 83) + 1) (zirem km 10)) (6 + 13 * sp_nf (A 83) + 2) hd) (6 + 13 * sp_nf (A 83) + 3) 0) (6 + 13 * sp_nf (A 83) + 4) 0 := by
          funext j
          unfold upd zirem
          repeat' split
          all_goals first | rfl | (exfalso; omega)
        have hS : sq_fence A km hd = ((nI (sp_nf (A 83) + 1 - 1)), va_up A 83 (upd (upd (upd (upd (upd (upd (A 83) 2 (nI (sp_nf (A 83) + 1))) (6 + 13 * sp_nf (A 83) + 0) (km / 10)) (6 + 13 * sp_nf (A 83) + 1) (zirem km 10)) (6 + 13 * sp_nf (A 83) + 2) hd) (6 + 13 * sp_nf (A 83) + 3) 0) (6 + 13 * sp_nf (A 83) + 4) 0)) := by
          unfold sq_fence;  rw [if_neg c4, if_neg c11, if_neg (show ¬ nI (sp_nf (A 83)) = 4 from full_ne (m := 4) (by decide) c12 (by omega))] <;> (try rfl)
        exact kret _ _ _ _ dX7_fence_79 ⟨zu (bg_M M (9 + 2 * (sp_nf (A 83))) km hd) 1 1 (nI (sp_nf (A 83) + 1)), N, rfl, by rw [hS], by rw [hS]; exact hR.now (hrho ▸ ((((((hR.1.f1 (r := 1) (i := sp_nf (A 83)) (k := 2) (v := 0) (x := (km / 10)) (by omega) (by decide)).f1 (r := 1) (i := sp_nf (A 83)) (k := 3) (v := 1) (x := (km - km / 10 * 10)) (by omega) (by decide)).f1 (r := 1) (i := sp_nf (A 83)) (k := 4) (v := 2) (x := hd) (by omega) (by decide)).f1 (r := 1) (i := sp_nf (A 83)) (k := 1) (v := 3) (x := 0) (by omega) (by decide)).f1 (r := 1) (i := sp_nf (A 83)) (k := 5) (v := 4) (x := 0) (by omega) (by decide)).fld (r := 1) (k := 1) (v := 2) (x := (nI (sp_nf (A 83) + 1))) (by decide))) (fun j hj => (((((((zFr.rf (r := 1) (M := M)).zu (i := 9 + 2 * sp_nf (A 83)) ⟨by omega, by omega⟩).zu (i := 9 + 2 * sp_nf (A 83)) ⟨by omega, by omega⟩).zu (i := 9 + 2 * sp_nf (A 83)) ⟨by omega, by omega⟩).zu (i := 9 + 2 * sp_nf (A 83)) ⟨by omega, by omega⟩).zu (i := 9 + 2 * sp_nf (A 83)) ⟨by omega, by omega⟩).zu (i := 1) ⟨by omega, by omega⟩) j (by omega)) (fun j hj => (fun j _ => rfl : zFrN 1 N N) j (by omega)), (zHi.rf (M := M)).fr (((((((zFr.rf (r := 1) (M := M)).zu (i := 9 + 2 * sp_nf (A 83)) ⟨by omega, by omega⟩).zu (i := 9 + 2 * sp_nf (A 83)) ⟨by omega, by omega⟩).zu (i := 9 + 2 * sp_nf (A 83)) ⟨by omega, by omega⟩).zu (i := 9 + 2 * sp_nf (A 83)) ⟨by omega, by omega⟩).zu (i := 9 + 2 * sp_nf (A 83)) ⟨by omega, by omega⟩).zu (i := 1) ⟨by omega, by omega⟩) (by decide)⟩
      · refine z_aload_n (j := 0) o dX7_fence_31 rfl ?_
        refine z_iconst (v := 4) o dX7_fence_32 (by decide) ?_
        refine z_callVi (As := [.int 4]) (n := 1) (st := []) o dX7_fence_33 (c_X7_error hB M N 4 (by decide) (by decide)) zc_X7_54 (by decide) (i := 0) (by rw [hB]; exact zsh_lt rfl (by decide)) (zg_o rfl (by decide)) rfl rfl rfl (Nat.le_of_ble_eq_true rfl) (fun r16 g17 p18 => ?_)
        obtain ⟨rfl, rfl⟩ := p18
        have hS : sq_fence A km hd = ((zE 4), zEr A 4) := by
          unfold sq_fence;  rw [if_neg c4, if_neg c11, if_pos (show nI (sp_nf (A 83)) = 4 from full_eq (m := 4) (by omega) (by decide) c12)] <;> (try rfl)
        exact kret _ _ _ _ dX7_fence_36 ⟨zu M 73 4 (M 73 4 + 1), N, rfl, by rw [hS], by rw [hS]; exact (hR).er (k := 4) (by decide), ((zHi.rf (M := M))).zu (by decide)⟩
    · refine z_aload_n (j := 0) o dX7_fence_14 rfl ?_
      refine z_iconst (v := 1) o dX7_fence_15 (by decide) ?_
      refine z_callVi (As := [.int 1]) (n := 1) (st := []) o dX7_fence_16 (c_X7_error hB M N 1 (by decide) (by decide)) zc_X7_54 (by decide) (i := 0) (by rw [hB]; exact zsh_lt rfl (by decide)) (zg_o rfl (by decide)) rfl rfl rfl (Nat.le_of_ble_eq_true rfl) (fun r19 g20 p21 => ?_)
      obtain ⟨rfl, rfl⟩ := p21
      have hS : sq_fence A km hd = ((zE 1), zEr A 1) := by
        unfold sq_fence;  rw [if_neg c4, if_pos c11] <;> (try rfl)
      exact kret _ _ _ _ dX7_fence_19 ⟨zu M 73 1 (M 73 1 + 1), N, rfl, by rw [hS], by rw [hS]; exact (hR).er (k := 1) (by decide), ((zHi.rf (M := M))).zu (by decide)⟩

