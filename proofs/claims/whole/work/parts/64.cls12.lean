/-! the class: a Range (4) -/
set_option maxHeartbeats 4000000 in
set_option maxRecDepth 100000 in
theorem c_X3_fencesGraze {B : zB} (hB : znn B = 95) (M : zM) (N : zN) (r : Nat) (ρ : Nat → Int32) (hR : zsh r = 2) (hok : zOkAll ρ) (hg : zRg r M N ρ) (hsn : zSn r N ρ (sp_nf ρ)) : zCv B (zg B M N) yX3_fencesGraze cX3_fencesGraze 3 none 5 [zref B r] (fun g' => ∃ M1 : zM, g' = zg B M1 N ∧ zFr r M M1 ∧ zRg r M1 N (sp_richF ρ (sp_nf ρ))) := by
  refine zCv_of (by decide +kernel) (Nat.le_of_ble_eq_true rfl) ?_
  intro X o kret
  show zW X B (zg B M N) 0 [(0, zref B r)] []
  obtain ⟨hnf, hnf4⟩ := ok_nf2 hok.1
  refine z_iconst (v := 0) o dX3_fencesGraze_0 (by decide) ?_
  refine z_istore_n (i := 1) (lv2 := [(1, .int 0), (0, zref B r)]) o dX3_fencesGraze_1 rfl (by decide) rfl ?_
  have LOOP : ∀ nq kq : Nat, kq + nq = sp_nf ρ → ∀ M1 : zM, zFr r M M1 → zRg r M1 N (sp_richF ρ kq) → zW X B (zg B M1 N) 2 [(1, .int (nI kq)), (0, zref B r)] [] := by
    intro nq
    induction nq with
    | zero =>
      intro kq hkq M1 h1 hg1
      have hz : kq = sp_nf ρ := by omega
      have hokk : zOkAll (sp_richF ρ kq) := okA_richF hok _ (by omega)
      have e1 : M1 r 1 = nI (sp_nf ρ) := by rw [hg1.1.1, sp_richF_ne _ (fun i _ => by omega)]; exact hnf
      refine z_iload_n (j := 0) o dX3_fencesGraze_2 rfl ?_
      refine z_aload_n (j := 1) o dX3_fencesGraze_3 rfl ?_
      refine zo_get (i := r) o hB dX3_fencesGraze_4 zf_X3_51 hR (by decide) (rfl) ?_
      refine zo_rw (y := nI (sp_nf ρ)) (e1) ?_
      refine z_icmpge (tgt := 48) o dX3_fencesGraze_7 (by decide) (fun c1 => ?_) (fun c1 => ?_)
      · exact kret _ _ _ dX3_fencesGraze_48 ⟨M1, rfl, h1, by rw [← hz]; exact hg1⟩
      · exact absurd c1 (nI_nlt (a := kq) (b := sp_nf ρ) (by omega) (by omega))
    | succ nq ih =>
      intro kq hkq M1 h1 hg1
      have hlt : kq < sp_nf ρ := by omega
      have hokk : zOkAll (sp_richF ρ kq) := okA_richF hok _ (by omega)
      have e1 : M1 r 1 = nI (sp_nf ρ) := by rw [hg1.1.1, sp_richF_ne _ (fun i _ => by omega)]; exact hnf
      obtain ⟨a, ha, ea⟩ := ok_f hokk.1 (i := kq) (by omega) (j := 4) (by decide)
      have ha9 : a ≤ 99999 := ha
      obtain ⟨b, hb, eb⟩ : zle (sp_graze (sp_richF ρ kq) kq) 999 := zheld_le (n := 999) rfl (by decide)
      have hsi : N (r + 7) kq = sp_ins (sp_richF ρ kq) kq := (hsn kq hlt).trans (sp_ins_cg (ok_np2 hok.1 (by omega)).2 (sp_richF_ne _ (fun i _ => by omega)) (fun p _ => sp_richF_ne _ (fun i _ => by omega))).symm
      refine z_iload_n (j := 0) o dX3_fencesGraze_2 rfl ?_
      refine z_aload_n (j := 1) o dX3_fencesGraze_3 rfl ?_
      refine zo_get (i := r) o hB dX3_fencesGraze_4 zf_X3_51 hR (by decide) (rfl) ?_
      refine zo_rw (y := nI (sp_nf ρ)) (e1) ?_
      refine z_icmpge (tgt := 48) o dX3_fencesGraze_7 (by decide) (fun c2 => ?_) (fun c2 => ?_)
      · exact absurd (nI_lt (a := kq) (b := sp_nf ρ) (by omega) (by omega)) c2
      · refine z_aload_n (j := 1) o dX3_fencesGraze_10 rfl ?_
        refine zo_get (i := r) o hB dX3_fencesGraze_11 zf_X3_11 hR (by decide) (rfl) ?_
        refine z_iload_n (j := 0) o dX3_fencesGraze_14 rfl ?_
        refine zo_aldF (i := r + 1) (j := kq) o hB dX3_fencesGraze_15 (zh_R hR).1 (by rw [(zh_R hR).2.2.2.2.2.2.2.2.2.1]; omega) (by rw [(zh_R hR).2.2.2.2.2.2.2.2.2.1]; decide) ?_
        refine z_astore_n (i := 2) (lv2 := [(2, zref B (r + 8 + 2 * kq)), (1, .int (nI kq)), (0, zref B r)]) o dX3_fencesGraze_16 rfl (by decide) rfl ?_
        refine z_aload_n (j := 0) o dX3_fencesGraze_17 rfl ?_
        refine z_ldc (v := 99999) o dX3_fencesGraze_18 zk_X3_104 ?_
        refine z_aload_n (j := 0) o dX3_fencesGraze_20 rfl ?_
        refine zo_get (i := r + 8 + 2 * kq) o hB dX3_fencesGraze_21 zf_X3_105 ((zh_R hR).2.2.2.2.2.2.2.1 kq (by omega)) (by decide) (rfl) ?_
        refine zo_rw (y := nI a) (((hg1.2.1 kq (by omega)).2.2.2.2.1).trans ea) ?_
        refine z_aload_n (j := 2) o dX3_fencesGraze_24 rfl ?_
        refine z_aload_n (j := 0) o dX3_fencesGraze_25 rfl ?_
        refine z_aload_n (j := 2) o dX3_fencesGraze_26 rfl ?_
        refine zo_get (i := r) o hB dX3_fencesGraze_27 zf_X3_39 hR (by decide) (rfl) ?_
        refine z_iload_n (j := 1) o dX3_fencesGraze_30 rfl ?_
        refine zo_lald (i := r + 7) (j := kq) o hB dX3_fencesGraze_31 (zh_R hR).2.2.2.2.2.2.1 (by rw [(zh_R hR).2.2.2.2.2.2.2.2.2.2.2.2.2.2.2]; omega) (by rw [(zh_R hR).2.2.2.2.2.2.2.2.2.2.2.2.2.2.2]; decide) ?_
        refine zo_rwl (y := sp_ins (sp_richF ρ kq) kq) (hsi) ?_
        refine z_callVi (As := [zref B (r + 8 + 2 * kq), .long (sp_ins (sp_richF ρ kq) kq)]) (n := 2) (st := [.int (nI a), .int 99999, zref B (r + 8 + 2 * kq)]) o dX3_fencesGraze_32 (c_X3_graze hB M1 N r (r + 8 + 2 * kq) kq (sp_richF ρ kq) hR hokk hg1 ((zh_R hR).2.2.2.2.2.2.2.1 kq (by omega)) (hg1.2.1 kq (by omega))) zc_X3_108 (by decide) (i := r) (by rw [hB]; exact zsh_lt hR (by decide)) (zg_o hR (by decide)) rfl rfl rfl (Nat.le_of_ble_eq_true rfl) (fun r3 g4 p5 => ?_)
        obtain ⟨P6, rfl, rfl⟩ := p5
        refine zo_rw (y := nI b) (eb) ?_
        refine z_iadd o dX3_fencesGraze_35 ?_
        refine zo_rw (y := nI (a + b)) (zn_add (rfl) (rfl)) ?_
        refine z_mmin o dX3_fencesGraze_36 zm_X3_112 zn_mins zn_mi zn_minc (by decide) (Nat.le_of_ble_eq_true rfl) ?_
        refine zo_rw (y := zheld ((sp_richF ρ kq) (6 + 13 * kq + 4) + sp_graze (sp_richF ρ kq) kq) 0 99999) (by rw [ea, eb, nI_add]; exact min_held (by omega)) ?_
        refine zo_put (i := r + 8 + 2 * kq) o hB dX3_fencesGraze_39 zp_X3_105 ((zh_R hR).2.2.2.2.2.2.2.1 kq (by omega)) (by decide) (by decide) (Nat.le_of_ble_eq_true rfl) ?_
        refine z_iinc (j := 1) (v := nI (kq + 1)) (lv2 := [(1, .int (nI (kq + 1))), (2, zref B (r + 8 + 2 * kq)), (0, zref B r)]) o dX3_fencesGraze_42 rfl (zn_ofInt _) (by decide) rfl ?_
        refine z_goto (tgt := 2) o dX3_fencesGraze_45 (by decide) ?_
        refine zo_lv [0, 2] rfl ?_
        exact ih (kq + 1) (by omega) _ ((h1.va ⟨by omega, by omega⟩).zu ⟨by omega, by omega⟩) ((hg1.pile (u := 0) (by decide)).rich (i := kq) (by omega))
  refine zo_lv [0, 1] rfl ?_
  exact LOOP (sp_nf ρ) 0 (by omega) M zFr.rf hg

