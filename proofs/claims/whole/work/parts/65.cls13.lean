/-! the class: a Range (5) -/
set_option maxHeartbeats 4000000 in
set_option maxRecDepth 100000 in
theorem c_X3_cattleFeed {B : zB} (hB : znn B = 95) (M : zM) (N : zN) (r : Nat) (ρ : Nat → Int32) (hR : zsh r = 2) (hok : zOkAll ρ) (hg : zRg r M N ρ) (hsn : zSn r N ρ (sp_nf ρ)) : zCv B (zg B M N) yX3_cattleFeed cX3_cattleFeed 3 none 4 [zref B r] (fun g' => ∃ M1 : zM, g' = zg B M1 N ∧ zFr r M M1 ∧ zRg r M1 N (sp_feedF ρ (sp_nc ρ))) := by
  refine zCv_of (by decide +kernel) (Nat.le_of_ble_eq_true rfl) ?_
  intro X o kret
  show zW X B (zg B M N) 0 [(0, zref B r)] []
  obtain ⟨hnc, hnc6⟩ := ok_nc2 hok.1
  refine z_iconst (v := 0) o dX3_cattleFeed_0 (by decide) ?_
  refine z_istore_n (i := 1) (lv2 := [(1, .int 0), (0, zref B r)]) o dX3_cattleFeed_1 rfl (by decide) rfl ?_
  have LOOP : ∀ nq kq : Nat, kq + nq = sp_nc ρ → ∀ M1 : zM, zFr r M M1 → zRg r M1 N (sp_feedF ρ kq) → zW X B (zg B M1 N) 2 [(1, .int (nI kq)), (0, zref B r)] [] := by
    intro nq
    induction nq with
    | zero =>
      intro kq hkq M1 h1 hg1
      have hz : kq = sp_nc ρ := by omega
      have hokk : zOkAll (sp_feedF ρ kq) := okA_feedF hok _ (by omega)
      have e1 : M1 r 4 = nI (sp_nc ρ) := by rw [hg1.1.2.1, sp_feedF_ne _ (fun i _ => by omega)]; exact hnc
      refine z_iload_n (j := 0) o dX3_cattleFeed_2 rfl ?_
      refine z_aload_n (j := 1) o dX3_cattleFeed_3 rfl ?_
      refine zo_get (i := r) o hB dX3_cattleFeed_4 zf_X3_60 hR (by decide) (rfl) ?_
      refine zo_rw (y := nI (sp_nc ρ)) (e1) ?_
      refine z_icmpge (tgt := 73) o dX3_cattleFeed_7 (by decide) (fun c1 => ?_) (fun c1 => ?_)
      · exact kret _ _ _ dX3_cattleFeed_73 ⟨M1, rfl, h1, by rw [← hz]; exact hg1⟩
      · exact absurd c1 (nI_nlt (a := kq) (b := sp_nc ρ) (by omega) (by omega))
    | succ nq ih =>
      intro kq hkq M1 h1 hg1
      have hlt : kq < sp_nc ρ := by omega
      have hokk : zOkAll (sp_feedF ρ kq) := okA_feedF hok _ (by omega)
      have e1 : M1 r 4 = nI (sp_nc ρ) := by rw [hg1.1.2.1, sp_feedF_ne _ (fun i _ => by omega)]; exact hnc
      obtain ⟨cq, hcq, ecq⟩ := hokk.1 _ _ (zbd_c (i := kq) (by omega))
      have enf : sp_nf (sp_feedF ρ kq) = sp_nf ρ := by unfold sp_nf; rw [sp_feedF_ne _ (fun i _ => by omega)]
      have hnf4 := (ok_nf2 hok.1).2
      have hsk : zSn r N (sp_feedF ρ kq) (sp_nf (sp_feedF ρ kq)) := by
        rw [enf]; intro i hi
        exact (hsn i hi).trans (sp_ins_cg (ok_np2 hok.1 (by omega)).2 (sp_feedF_ne _ (fun i _ => by omega)) (fun p _ => sp_feedF_ne _ (fun i _ => by omega))).symm
      refine z_iload_n (j := 0) o dX3_cattleFeed_2 rfl ?_
      refine z_aload_n (j := 1) o dX3_cattleFeed_3 rfl ?_
      refine zo_get (i := r) o hB dX3_cattleFeed_4 zf_X3_60 hR (by decide) (rfl) ?_
      refine zo_rw (y := nI (sp_nc ρ)) (e1) ?_
      refine z_icmpge (tgt := 73) o dX3_cattleFeed_7 (by decide) (fun c2 => ?_) (fun c2 => ?_)
      · exact absurd (nI_lt (a := kq) (b := sp_nc ρ) (by omega) (by omega)) c2
      · refine z_aload_n (j := 1) o dX3_cattleFeed_10 rfl ?_
        refine zo_get (i := r) o hB dX3_cattleFeed_11 zf_X3_32 hR (by decide) (rfl) ?_
        refine z_iconst (v := 1) o dX3_cattleFeed_14 (by decide) ?_
        refine zo_aldL (i := r + 5) (j := 1) o hB dX3_cattleFeed_15 (zh_R hR).2.2.2.2.1 (by rw [(zh_R hR).2.2.2.2.2.2.2.2.2.2.2.2.2.1]; omega) (by rw [(zh_R hR).2.2.2.2.2.2.2.2.2.2.2.2.2.1]; decide) ?_
        refine z_aload_n (j := 1) o dX3_cattleFeed_16 rfl ?_
        refine zo_get (i := r) o hB dX3_cattleFeed_17 zf_X3_15 hR (by decide) (rfl) ?_
        refine z_iload_n (j := 0) o dX3_cattleFeed_20 rfl ?_
        refine zo_iald (i := r + 2) (j := kq) o hB dX3_cattleFeed_21 (zh_R hR).2.1 (by rw [(zh_R hR).2.2.2.2.2.2.2.2.2.2.1]; omega) (by rw [(zh_R hR).2.2.2.2.2.2.2.2.2.2.1]; decide) ?_
        refine zo_rw (y := nI cq) (((hg1.2.2.1 kq (by omega)).1).trans ecq) ?_
        refine z_aload_n (j := 1) o dX3_cattleFeed_22 rfl ?_
        refine z_aload_n (j := 1) o dX3_cattleFeed_23 rfl ?_
        refine zo_get (i := r) o hB dX3_cattleFeed_24 zf_X3_15 hR (by decide) (rfl) ?_
        refine z_iload_n (j := 0) o dX3_cattleFeed_27 rfl ?_
        refine zo_iald (i := r + 2) (j := kq) o hB dX3_cattleFeed_28 (zh_R hR).2.1 (by rw [(zh_R hR).2.2.2.2.2.2.2.2.2.2.1]; omega) (by rw [(zh_R hR).2.2.2.2.2.2.2.2.2.2.1]; decide) ?_
        refine zo_rw (y := nI cq) (((hg1.2.2.1 kq (by omega)).1).trans ecq) ?_
        refine z_callVi (As := [.int (nI cq)]) (n := 1) (st := [.int (nI cq), zref B (r + 19)]) o dX3_cattleFeed_29 (c_X3_brandSeen hB M1 N r (sp_feedF ρ kq) cq hR hokk.1 hg1 (by omega) hsk) zc_X3_118 (by decide) (i := r) (by rw [hB]; exact zsh_lt hR (by decide)) (zg_o hR (by decide)) rfl rfl rfl (Nat.le_of_ble_eq_true rfl) (fun r3 g4 p5 => ?_)
        obtain ⟨rfl, rfl⟩ := p5
        refine z_aload_n (j := 1) o dX3_cattleFeed_32 rfl ?_
        refine zo_get (i := r) o hB dX3_cattleFeed_33 zf_X3_70 hR (by decide) (rfl) ?_
        refine zo_rw (y := (sp_feedF ρ kq) 0) (hg1.1.2.2.1) ?_
        refine z_bipush (v := 7) o dX3_cattleFeed_36 (by decide) ?_
        refine z_irem o dX3_cattleFeed_38 (by decide) ?_
        refine z_callVi (As := [.int (nI cq), .int (sp_brand (sp_feedF ρ kq) cq), .int (((sp_feedF ρ kq) 0) - ((sp_feedF ρ kq) 0) / 7 * 7)]) (n := 3) (st := []) o dX3_cattleFeed_39 (c_X2_gives hB M1 N (r + 19) 1 (sp_feedF ρ kq) (nI cq) (sp_brand (sp_feedF ρ kq) cq) (((sp_feedF ρ kq) 0) - ((sp_feedF ρ kq) 0) / 7 * 7) ((zh_R hR).2.2.2.2.2.2.2.2.1 1 (by omega)) (by decide) hokk (hg1.2.2.2.2.2.2.2 1 (by decide))) zc_X3_122 (by decide) (i := r + 19) (by rw [hB]; exact zsh_lt ((zh_R hR).2.2.2.2.2.2.2.2.1 1 (by omega)) (by decide)) (zg_o ((zh_R hR).2.2.2.2.2.2.2.2.1 1 (by omega)) (by decide)) rfl rfl rfl (Nat.le_of_ble_eq_true rfl) (fun r6 g7 p8 => ?_)
        obtain ⟨P9, rfl, rfl⟩ := p8
        refine z_istore_n (i := 2) (lv2 := [(2, .int (sp_gives (sp_feedF ρ kq) 1 (nI cq) (sp_brand (sp_feedF ρ kq) cq) (((sp_feedF ρ kq) 0) - ((sp_feedF ρ kq) 0) / 7 * 7))), (1, .int (nI kq)), (0, zref B r)]) o dX3_cattleFeed_42 rfl (by decide) rfl ?_
        refine z_aload_n (j := 2) o dX3_cattleFeed_43 rfl ?_
        refine zo_get (i := r) o hB dX3_cattleFeed_44 zf_X3_19 hR (by decide) (rfl) ?_
        refine z_iload_n (j := 1) o dX3_cattleFeed_47 rfl ?_
        refine z_iconst (v := 0) o dX3_cattleFeed_48 (by decide) ?_
        refine z_sipush (v := 999) o dX3_cattleFeed_49 (by decide) ?_
        refine z_aload_n (j := 2) o dX3_cattleFeed_52 rfl ?_
        refine zo_get (i := r) o hB dX3_cattleFeed_53 zf_X3_19 hR (by decide) (rfl) ?_
        refine z_iload_n (j := 1) o dX3_cattleFeed_56 rfl ?_
        refine zo_iald (i := r + 3) (j := kq) o hB dX3_cattleFeed_57 (zh_R hR).2.2.1 (by rw [(zh_R hR).2.2.2.2.2.2.2.2.2.2.2.1]; omega) (by rw [(zh_R hR).2.2.2.2.2.2.2.2.2.2.2.1]; decide) ?_
        refine zo_rw (y := (sp_feedF ρ kq) (58 + 2 * kq + 1)) (by first | exact (hg1.2.2.1 kq (by omega)).2 | (rw [va_up_ne _ _ (by omega)]; exact (hg1.2.2.1 kq (by omega)).2)) ?_
        refine z_iload_n (j := 0) o dX3_cattleFeed_58 rfl ?_
        refine z_iadd o dX3_cattleFeed_59 ?_
        refine z_mmin o dX3_cattleFeed_60 zm_X3_112 zn_mins zn_mi zn_minc (by decide) (Nat.le_of_ble_eq_true rfl) ?_
        refine z_mmax o dX3_cattleFeed_63 zm_X3_126 zn_maxs zn_mi zn_maxc (by decide) (Nat.le_of_ble_eq_true rfl) ?_
        refine zo_rw (y := zheld ((sp_feedF ρ kq) (58 + 2 * kq + 1) + sp_gives (sp_feedF ρ kq) 1 (nI cq) (sp_brand (sp_feedF ρ kq) cq) (zirem ((sp_feedF ρ kq) 0) 7)) 0 999) (clamp_eq (by decide)) ?_
        refine zo_iast (i := r + 3) (j := kq) o hB dX3_cattleFeed_66 (zh_R hR).2.2.1 (by rw [(zh_R hR).2.2.2.2.2.2.2.2.2.2.2.1]; omega) (by rw [(zh_R hR).2.2.2.2.2.2.2.2.2.2.2.1]; decide) ?_
        refine z_iinc (j := 1) (v := nI (kq + 1)) (lv2 := [(1, .int (nI (kq + 1))), (2, .int (sp_gives (sp_feedF ρ kq) 1 (nI cq) (sp_brand (sp_feedF ρ kq) cq) (((sp_feedF ρ kq) 0) - ((sp_feedF ρ kq) 0) / 7 * 7))), (0, zref B r)]) o dX3_cattleFeed_67 rfl (zn_ofInt _) (by decide) rfl ?_
        refine z_goto (tgt := 2) o dX3_cattleFeed_70 (by decide) ?_
        refine zo_lv [0, 2] rfl ?_
        have hs2 : sp_feedF ρ (kq + 1) = upd (sp_feedF ρ kq) (58 + 2 * kq + 1) (zheld ((sp_feedF ρ kq) (58 + 2 * kq + 1) + sp_gives (sp_feedF ρ kq) 1 (nI cq) (sp_brand (sp_feedF ρ kq) cq) (zirem ((sp_feedF ρ kq) 0) 7)) 0 999) := by
          show sp_feed1 (sp_feedF ρ kq) kq = _
          unfold sp_feed1; rw [ecq, zn_nI (by omega)]
        exact ih (kq + 1) (by omega) _ ((h1.va ⟨by omega, by omega⟩).zu ⟨by omega, by omega⟩) (by rw [hs2]; exact (hg1.pile (u := 1) (by decide)).cat (t := 1) (k := kq) (by decide) (by omega))
  refine zo_lv [0, 1] rfl ?_
  exact LOOP (sp_nc ρ) 0 (by omega) M zFr.rf hg

