/-! the class: a Range strays -/
theorem upd_id {f : Nat → Int32} {k : Nat} : upd f k (f k) = f := by
  funext j; unfold upd; split
  · rename_i q; rw [q]
  · rfl
set_option maxHeartbeats 4000000 in
set_option maxRecDepth 100000 in
theorem c_X3_strayByDraws {B : zB} (hB : znn B = 95) (M : zM) (N : zN) (r : Nat) (ρ : Nat → Int32) (hR : zsh r = 2) (hok : zOkAll ρ) (hg : zRg r M N ρ) : zCv B (zg B M N) yX3_strayByDraws cX3_strayByDraws 3 none 1 [zref B r] (fun g' => ∃ (M1 : zM) (N1 : zN), g' = zg B M1 N1 ∧ zFr r M M1 ∧ zFrN r N N1 ∧ zRg r M1 N1 (sp_stray ρ)) := by
  refine zCv_of (by decide +kernel) (Nat.le_of_ble_eq_true rfl) ?_
  intro X o kret
  show zW X B (zg B M N) 0 [(0, zref B r)] []
  obtain ⟨hnc, hnc6⟩ := ok_nc2 hok.1
  obtain ⟨hda, hdb⟩ := sp_dr_nat ρ
  obtain ⟨hdc, hdd⟩ := sp_dr_nat (sp_stray1 ρ)
  obtain ⟨hde, hdf⟩ := sp_dr_nat (sp_draw (sp_stray1 ρ))
  refine z_aload_n (j := 0) o dX3_strayByDraws_0 rfl ?_
  refine z_dup o dX3_strayByDraws_1 rfl ?_
  refine zo_get (i := r) o hB dX3_strayByDraws_2 zf_X3_63 hR (by decide) (rfl) ?_
  refine z_aload_n (j := 0) o dX3_strayByDraws_5 rfl ?_
  refine z_callVi (As := []) (n := 0) (st := [.long (N r 5), zref B r]) o dX3_strayByDraws_6 (c_X3_draw hB M N r ρ hR hg) zc_X3_141 (by decide) (i := r) (by rw [hB]; exact zsh_lt hR (by decide)) (zg_o hR (by decide)) rfl rfl rfl (Nat.le_of_ble_eq_true rfl) (fun r1 g2 p3 => ?_)
  obtain ⟨M4, rfl, fM4, gM4, eM4⟩ := p3
  obtain ⟨hdM4, hlM4⟩ := sp_dr_nat ρ
  refine zo_rw (y := nI (sp_drn ρ)) (by rw [eM4]; exact hdM4) ?_
  refine z_bipush (v := 64) o dX3_strayByDraws_9 (by decide) ?_
  refine z_irem o dX3_strayByDraws_11 (by decide) ?_
  refine zo_rw (y := nI (sp_drn ρ % 64)) (by exact zrem_nat (d := 64) rfl (by omega) (by omega) (by omega)) ?_
  have hm64 : sp_drn ρ % 64 < 64 := Nat.mod_lt _ (by decide)
  refine z_callSl (As := [.int (nI (sp_drn ρ % 64))]) (n := 1) (st := [.long (N r 5), zref B r]) o dX3_strayByDraws_12 (c_X1_bit hB M4 N (nI (sp_drn ρ % 64))) zc_X3_147 (by decide) rfl rfl (Nat.le_of_ble_eq_true rfl) (fun r5 g6 p7 => ?_)
  obtain ⟨rfl, rfl⟩ := p7
  refine z_lxor o dX3_strayByDraws_15 ?_
  refine zo_putl (i := r) o hB dX3_strayByDraws_16 zp_X3_63 hR (by decide) ?_
  refine zo_nn (fun N8 hN8 => ?_)
  have hg1 : zRg r M4 N8 (sp_stray1 ρ) := by
    rw [hN8]
    exact gM4.bits (k := 5) (a := 70) (Or.inl ⟨rfl, rfl⟩) (gM4.2.2.2.1.flip hm64 ((okA_draw hok).1 _ _ (zbd_s (by omega)))) (fun j hj => upd_ne (hj _ hm64))
  have hn1 : zFrN r N N8 := fun j hj => by rw [hN8, zul_ne (by omega)]
  have ok1 : zOkAll (sp_stray1 ρ) := okA_stray1 hok
  have hnc1 : (sp_stray1 ρ) 3 = nI (sp_nc ρ) := by rw [sp_stray1_ne (by decide) (by omega)]; exact hnc
  refine z_aload_n (j := 0) o dX3_strayByDraws_19 rfl ?_
  refine zo_get (i := r) o hB dX3_strayByDraws_20 zf_X3_60 hR (by decide) (rfl) ?_
  refine zo_rw (y := nI (sp_nc ρ)) (hg1.1.2.1.trans hnc1) ?_
  refine z_ifle (tgt := 63) o dX3_strayByDraws_23 (by decide) (fun c9 => ?_) (fun c9 => ?_)
  · have hz : ¬ 0 < sp_nc ρ := fun q => c9 (nI_lt (a := 0) (b := sp_nc ρ) q (by omega))
    exact kret _ _ _ dX3_strayByDraws_63 ⟨M4, N8, rfl, fM4, hn1, by rw [show sp_stray ρ = (sp_stray1 ρ) from if_neg hz]; exact hg1⟩
  · have hc : 0 < sp_nc ρ := Nat.pos_of_ne_zero (fun q => by rw [q] at c9; exact absurd c9 (by decide))
    obtain ⟨kc, hkc⟩ : ∃ kc, sp_cw (sp_stray1 ρ) = kc := ⟨_, rfl⟩
    refine z_aload_n (j := 0) o dX3_strayByDraws_26 rfl ?_
    refine z_callVi (As := []) (n := 0) (st := []) o dX3_strayByDraws_27 (c_X3_draw hB M4 N8 r (sp_stray1 ρ) hR hg1) zc_X3_141 (by decide) (i := r) (by rw [hB]; exact zsh_lt hR (by decide)) (zg_o hR (by decide)) rfl rfl rfl (Nat.le_of_ble_eq_true rfl) (fun r10 g11 p12 => ?_)
    obtain ⟨M13, rfl, fM13, gM13, eM13⟩ := p12
    obtain ⟨hdM13, hlM13⟩ := sp_dr_nat (sp_stray1 ρ)
    refine zo_rw (y := nI (sp_drn (sp_stray1 ρ))) (by rw [eM13]; exact hdM13) ?_
    refine z_aload_n (j := 0) o dX3_strayByDraws_30 rfl ?_
    refine zo_get (i := r) o hB dX3_strayByDraws_31 zf_X3_60 hR (by decide) (rfl) ?_
    refine zo_rw (y := nI (sp_nc ρ)) ((gM13.1.2.1).trans ((upd_ne (by decide)).trans hnc1)) ?_
    refine z_irem o dX3_strayByDraws_34 (nI_ne0 hc (by omega)) ?_
    refine zo_rw (y := nI kc) (by rw [← hkc]; unfold sp_cw; rw [sp_stray1_nc]; exact zrem_nat (d := sp_nc ρ) rfl (by omega) (by omega) (by omega)) ?_
    have hcw : kc < sp_nc ρ := by
      rw [← hkc]
      have : sp_cw (sp_stray1 ρ) < sp_nc (sp_stray1 ρ) := Nat.mod_lt _ (by rw [sp_stray1_nc]; exact hc)
      rw [sp_stray1_nc] at this; exact this
    refine z_istore_n (i := 1) (lv2 := [(1, .int (nI kc)), (0, zref B r)]) o dX3_strayByDraws_35 rfl (by decide) rfl ?_
    refine z_aload_n (j := 1) o dX3_strayByDraws_36 rfl ?_
    refine zo_get (i := r) o hB dX3_strayByDraws_37 zf_X3_15 hR (by decide) (rfl) ?_
    refine z_iload_n (j := 0) o dX3_strayByDraws_40 rfl ?_
    obtain ⟨cq, hcq, ecq⟩ := ok1.1 _ _ (zbd_c (i := kc) (by omega))
    refine zo_iald (i := r + 2) (j := kc) o hB dX3_strayByDraws_41 (zh_R hR).2.1 (by rw [(zh_R hR).2.2.2.2.2.2.2.2.2.2.1]; omega) (by rw [(zh_R hR).2.2.2.2.2.2.2.2.2.2.1]; decide) ?_
    refine zo_rw (y := nI cq) (((gM13.2.2.1 _ (by omega)).1.trans (upd_ne (by omega))).trans ecq) ?_
    refine z_aload_n (j := 1) o dX3_strayByDraws_42 rfl ?_
    refine z_callVi (As := []) (n := 0) (st := [.int (nI cq)]) o dX3_strayByDraws_43 (c_X3_draw hB M13 N8 r (sp_draw (sp_stray1 ρ)) hR gM13) zc_X3_141 (by decide) (i := r) (by rw [hB]; exact zsh_lt hR (by decide)) (zg_o hR (by decide)) rfl rfl rfl (Nat.le_of_ble_eq_true rfl) (fun r14 g15 p16 => ?_)
    obtain ⟨M17, rfl, fM17, gM17, eM17⟩ := p16
    obtain ⟨hdM17, hlM17⟩ := sp_dr_nat (sp_draw (sp_stray1 ρ))
    refine zo_rw (y := nI (sp_drn (sp_draw (sp_stray1 ρ)))) (by rw [eM17]; exact hdM17) ?_
    refine z_iconst (v := 4) o dX3_strayByDraws_46 (by decide) ?_
    refine z_irem o dX3_strayByDraws_47 (by decide) ?_
    refine z_callSi (As := [.int (nI cq), .int ((nI (sp_drn (sp_draw (sp_stray1 ρ)))) - (nI (sp_drn (sp_draw (sp_stray1 ρ)))) / 4 * 4)]) (n := 2) (st := []) o dX3_strayByDraws_48 (c_X1_next hB M17 N8 (nI cq) ((nI (sp_drn (sp_draw (sp_stray1 ρ)))) - (nI (sp_drn (sp_draw (sp_stray1 ρ)))) / 4 * 4)) zc_X3_151 (by decide) rfl rfl (Nat.le_of_ble_eq_true rfl) (fun r18 g19 p20 => ?_)
    obtain ⟨rfl, rfl⟩ := p20
    refine zo_rw (y := sp_next (nI cq) ((nI (sp_drn (sp_draw (sp_stray1 ρ)))) - (nI (sp_drn (sp_draw (sp_stray1 ρ)))) / 4 * 4)) (cg_next_eq (by omega) _) ?_
    refine zo_rw (y := sp_next (nI cq) (zirem (sp_dr (sp_draw (sp_stray1 ρ))) 4)) (by rw [hde]; rfl) ?_
    refine z_istore_n (i := 2) (lv2 := [(2, .int (sp_next (nI cq) (zirem (sp_dr (sp_draw (sp_stray1 ρ))) 4))), (1, .int (nI kc)), (0, zref B r)]) o dX3_strayByDraws_51 rfl (by decide) rfl ?_
    refine z_iload_n (j := 0) o dX3_strayByDraws_52 rfl ?_
    refine z_iflt (tgt := 63) o dX3_strayByDraws_53 (by decide) (fun c21 => ?_) (fun c21 => ?_)
    · have es : sp_stray ρ = sp_draw (sp_draw (sp_stray1 ρ)) := by
        unfold sp_stray; rw [if_pos hc]; unfold sp_stray2; rw [hkc, ecq, if_pos c21]; exact upd_id
      exact kret _ _ _ dX3_strayByDraws_63 ⟨M17, N8, rfl, ((fM4.tr fM13).tr fM17), hn1, by rw [es]; exact gM17⟩
    · have es : sp_stray ρ = upd (sp_draw (sp_draw (sp_stray1 ρ))) (58 + 2 * kc) (sp_next (nI cq) (zirem (sp_dr (sp_draw (sp_stray1 ρ))) 4)) := by
        unfold sp_stray; rw [if_pos hc]; unfold sp_stray2; rw [hkc, ecq, if_neg c21]
      refine z_aload_n (j := 2) o dX3_strayByDraws_56 rfl ?_
      refine zo_get (i := r) o hB dX3_strayByDraws_57 zf_X3_15 hR (by decide) (rfl) ?_
      refine z_iload_n (j := 1) o dX3_strayByDraws_60 rfl ?_
      refine z_iload_n (j := 0) o dX3_strayByDraws_61 rfl ?_
      refine zo_iast (i := r + 2) (j := kc) o hB dX3_strayByDraws_62 (zh_R hR).2.1 (by rw [(zh_R hR).2.2.2.2.2.2.2.2.2.2.1]; omega) (by rw [(zh_R hR).2.2.2.2.2.2.2.2.2.2.1]; decide) ?_
      exact kret _ _ _ dX3_strayByDraws_63 ⟨_, N8, rfl, ((fM4.tr fM13).tr fM17).zu ⟨by omega, by omega⟩, hn1, by rw [es]; exact gM17.cat (t := 0) (by decide) (by omega)⟩

