/-! the class: a Range (7) -/
theorem goes1_nf {ρ : Nat → Int32} (hok : zOkAll ρ) : sp_nf (sp_goes1 ρ) = sp_nf ρ := by
  unfold sp_nf; rw [sp_goes1_ne hok (by decide) (fun i p _ _ => by omega) (fun i _ => by omega)]
theorem goes1_nc {ρ : Nat → Int32} (hok : zOkAll ρ) : sp_nc (sp_goes1 ρ) = sp_nc ρ := by
  unfold sp_nc; rw [sp_goes1_ne hok (by decide) (fun i p _ _ => by omega) (fun i _ => by omega)]
theorem goes1_sn {r : Nat} {N : zN} {ρ : Nat → Int32} (hok : zOkAll ρ) (h : zSn r N (sp_moves ρ) (sp_nf (sp_moves ρ))) : zSn r N (sp_goes1 ρ) (sp_nf (sp_goes1 ρ)) := by
  have hm := okA_moves hok
  have h4 := (ok_nf2 hm.1).2
  rw [goes1_nf hok, ← sp_moves_nf hok.1]
  intro i hi
  exact (h i hi).trans (sp_ins_cg (ok_np2 hm.1 (by omega)).2 (sp_richF_ne _ (fun i _ => by omega)) (fun p _ => sp_richF_ne _ (fun i _ => by omega))).symm
set_option maxHeartbeats 4000000 in
set_option maxRecDepth 100000 in
theorem c_X3_dawnsCome {B : zB} (hB : znn B = 95) (M : zM) (N : zN) (r n : Nat) (ρ : Nat → Int32) (hR : zsh r = 2) (hok : zOkAll ρ) (hg : zRg r M N ρ) (hn : n < 1000) : zCv B (zg B M N) yX3_dawnsCome cX3_dawnsCome 3 none 6 [zref B r, .int (nI n)] (fun g' => ∃ (M1 : zM) (N1 : zN), g' = zg B M1 N1 ∧ zFr r M M1 ∧ zFrN r N N1 ∧ zRg r M1 N1 (sp_goesN ρ n)) := by
  refine zCv_of (by decide +kernel) (Nat.le_of_ble_eq_true rfl) ?_
  intro X o kret
  show zW X B (zg B M N) 0 [(0, zref B r), (1, .int (nI n))] []
  refine z_iconst (v := 0) o dX3_dawnsCome_0 (by decide) ?_
  refine z_istore_n (i := 2) (lv2 := [(2, .int 0), (0, zref B r), (1, .int (nI n))]) o dX3_dawnsCome_1 rfl (by decide) rfl ?_
  have LOOP : ∀ nq kq : Nat, kq + nq = n → ∀ (M1 : zM) (N1 : zN), zFr r M M1 → zFrN r N N1 → zRg r M1 N1 (sp_goesN ρ kq) → zW X B (zg B M1 N1) 2 [(2, .int (nI kq)), (0, zref B r), (1, .int (nI n))] [] := by
    intro nq
    induction nq with
    | zero =>
      intro kq hkq M1 N1 h1 h1n hg1
      have hz : kq = n := by omega
      refine z_iload_n (j := 0) o dX3_dawnsCome_2 rfl ?_
      refine z_iload_n (j := 2) o dX3_dawnsCome_3 rfl ?_
      refine z_icmpge (tgt := 29) o dX3_dawnsCome_4 (by decide) (fun c1 => ?_) (fun c1 => ?_)
      · exact kret _ _ _ dX3_dawnsCome_29 ⟨M1, N1, rfl, h1, h1n, by rw [← hz]; exact hg1⟩
      · exact absurd c1 (nI_nlt (a := kq) (b := n) (by omega) (by omega))
    | succ nq ih =>
      intro kq hkq M1 N1 h1 h1n hg1
      have hlt : kq < n := by omega
      have hokk : zOkAll (sp_goesN ρ kq) := okA_goesN hok _
      have hokm := okA_moves hokk
      have hokg := okA_goes1 hokk
      refine z_iload_n (j := 0) o dX3_dawnsCome_2 rfl ?_
      refine z_iload_n (j := 2) o dX3_dawnsCome_3 rfl ?_
      refine z_icmpge (tgt := 29) o dX3_dawnsCome_4 (by decide) (fun c2 => ?_) (fun c2 => ?_)
      · exact absurd (nI_lt (a := kq) (b := n) (by omega) (by omega)) c2
      · refine z_aload_n (j := 1) o dX3_dawnsCome_7 rfl ?_
        refine z_callVv (As := []) (n := 0) (st := []) o dX3_dawnsCome_8 (c_X3_postsMove hB M1 N1 r (sp_goesN ρ kq) hR hokk.1 hg1) zc_X3_93 (by decide) (i := r) (by rw [hB]; exact zsh_lt hR (by decide)) (zg_o hR (by decide)) rfl rfl rfl (Nat.le_of_ble_eq_true rfl) (fun g4 p5 => ?_)
        obtain ⟨M2, rfl, f2, g2⟩ := p5
        refine z_aload_n (j := 1) o dX3_dawnsCome_11 rfl ?_
        refine z_callVv (As := []) (n := 0) (st := []) o dX3_dawnsCome_12 (c_X3_lookInside hB M2 N1 r (sp_moves (sp_goesN ρ kq)) hR hokm.1 g2) zc_X3_95 (by decide) (i := r) (by rw [hB]; exact zsh_lt hR (by decide)) (zg_o hR (by decide)) rfl rfl rfl (Nat.le_of_ble_eq_true rfl) (fun g7 p8 => ?_)
        obtain ⟨N2, rfl, fn2, sn2⟩ := p8
        have g3 := g2.sn (N1 := N2) (fn2 r (by omega))
        refine z_aload_n (j := 1) o dX3_dawnsCome_15 rfl ?_
        refine z_callVv (As := []) (n := 0) (st := []) o dX3_dawnsCome_16 (c_X3_fencesGraze hB M2 N2 r (sp_moves (sp_goesN ρ kq)) hR hokm g3 sn2) zc_X3_98 (by decide) (i := r) (by rw [hB]; exact zsh_lt hR (by decide)) (zg_o hR (by decide)) rfl rfl rfl (Nat.le_of_ble_eq_true rfl) (fun g10 p11 => ?_)
        obtain ⟨M3, rfl, f3, g4⟩ := p11
        rw [sp_moves_nf hokk.1] at g4
        have g4 : zRg r M3 N2 (sp_goes1 (sp_goesN ρ kq)) := g4
        refine z_aload_n (j := 1) o dX3_dawnsCome_19 rfl ?_
        refine z_callVv (As := []) (n := 0) (st := []) o dX3_dawnsCome_20 (c_X3_cattleFeed hB M3 N2 r (sp_goes1 (sp_goesN ρ kq)) hR hokg g4 (goes1_sn hokk sn2)) zc_X3_101 (by decide) (i := r) (by rw [hB]; exact zsh_lt hR (by decide)) (zg_o hR (by decide)) rfl rfl rfl (Nat.le_of_ble_eq_true rfl) (fun g13 p14 => ?_)
        obtain ⟨M4, rfl, f4, g5⟩ := p14
        rw [goes1_nc hokk] at g5
        refine z_iinc (j := 0) (v := nI (kq + 1)) (lv2 := [(2, .int (nI (kq + 1))), (0, zref B r), (1, .int (nI n))]) o dX3_dawnsCome_23 rfl (zn_ofInt _) (by decide) rfl ?_
        refine z_goto (tgt := 2) o dX3_dawnsCome_26 (by decide) ?_
        refine zo_lv [0, 1, 2] rfl ?_
        exact ih (kq + 1) (by omega) M4 N2 (((h1.tr f2).tr f3).tr f4) (fun j hj => by rw [fn2 j (by omega)]; exact h1n j hj) g5
  refine zo_lv [0, 1, 2] rfl ?_
  exact LOOP n 0 (by omega) M N zFr.rf (fun _ _ => rfl) hg

