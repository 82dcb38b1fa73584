/-! the class: a Range (2) -/
set_option maxHeartbeats 4000000 in
set_option maxRecDepth 100000 in
theorem c_X3_branded {B : zB} (hB : znn B = 95) (M : zM) (N : zN) (r : Nat) (ρ : Nat → Int32) (hR : zsh r = 2) (hok : zOkR ρ) (hg : zRg r M N ρ) (hsn : zSn r N ρ (sp_nf ρ)) : zCl B (zg B M N) yX3_branded cX3_branded 4 (some .long) 0 [zref B r] (fun x g' => g' = zg B M N ∧ x = sp_allin ρ (sp_nf ρ)) := by
  refine zCl_of (by decide +kernel) (Nat.le_of_ble_eq_true rfl) ?_
  intro X o kret
  show zW X B (zg B M N) 0 [(0, zref B r)] []
  obtain ⟨hnf, hnf4⟩ := ok_nf2 hok
  obtain ⟨hnc, hnc6⟩ := ok_nc2 hok
  refine z_lconst (v := 0) o dX3_branded_0 (by decide) ?_
  refine z_lstore_n (i := 1) (lv2 := [(1, .long 0), (0, zref B r)]) o dX3_branded_1 rfl (by decide) rfl ?_
  refine z_iconst (v := 0) o dX3_branded_2 (by decide) ?_
  refine z_istore_n (i := 3) (lv2 := [(3, .int 0), (1, .long 0), (0, zref B r)]) o dX3_branded_3 rfl (by decide) rfl ?_
  have LOOP : ∀ nq kq : Nat, kq + nq = sp_nf ρ → zW X B (zg B M N) 4 [(3, .int (nI kq)), (1, .long (sp_allin ρ kq)), (0, zref B r)] [] := by
    intro nq
    induction nq with
    | zero =>
      intro kq hkkq
      have hqkq : sp_nf ρ = kq := by omega
      subst hqkq
      refine z_iload_n (j := 0) o dX3_branded_4 rfl ?_
      refine z_aload_n (j := 2) o dX3_branded_5 rfl ?_
      refine zo_get (i := r) o hB dX3_branded_6 zf_X3_51 hR (by decide) (rfl) ?_
      refine zo_rw (y := nI (sp_nf ρ)) (hg.1.1.trans hnf) ?_
      refine z_icmpge (tgt := 27) o dX3_branded_9 (by decide) (fun c1 => ?_) (fun c1 => ?_)
      · refine z_lload_n (j := 1) o dX3_branded_27 rfl ?_
        exact kret _ _ _ _ dX3_branded_28 ⟨rfl, rfl⟩
      · exact absurd c1 (nI_nlt (a := sp_nf ρ) (b := sp_nf ρ) (by omega) (by omega))
    | succ nq ihkq =>
      intro kq hkkq
      have hlkq : kq < sp_nf ρ := by omega
      refine z_iload_n (j := 0) o dX3_branded_4 rfl ?_
      refine z_aload_n (j := 2) o dX3_branded_5 rfl ?_
      refine zo_get (i := r) o hB dX3_branded_6 zf_X3_51 hR (by decide) (rfl) ?_
      refine zo_rw (y := nI (sp_nf ρ)) (hg.1.1.trans hnf) ?_
      refine z_icmpge (tgt := 27) o dX3_branded_9 (by decide) (fun c2 => ?_) (fun c2 => ?_)
      · exact absurd (nI_lt (a := kq) (b := sp_nf ρ) (by omega) (by omega)) c2
      · refine z_lload_n (j := 1) o dX3_branded_12 rfl ?_
        refine z_aload_n (j := 2) o dX3_branded_13 rfl ?_
        refine zo_get (i := r) o hB dX3_branded_14 zf_X3_39 hR (by decide) (rfl) ?_
        refine z_iload_n (j := 0) o dX3_branded_17 rfl ?_
        refine zo_lald (i := r + 7) (j := kq) o hB dX3_branded_18 (zh_R hR).2.2.2.2.2.2.1 (by rw [(zh_R hR).2.2.2.2.2.2.2.2.2.2.2.2.2.2.2]; omega) (by rw [(zh_R hR).2.2.2.2.2.2.2.2.2.2.2.2.2.2.2]; decide) ?_
        refine zo_rwl (y := sp_ins ρ kq) (hsn kq (by omega)) ?_
        refine z_lor o dX3_branded_19 ?_
        refine z_lstore_n (i := 1) (lv2 := [(1, .long ((sp_allin ρ kq) ||| (sp_ins ρ kq))), (3, .int (nI kq)), (0, zref B r)]) o dX3_branded_20 rfl (by decide) rfl ?_
        refine z_iinc (j := 1) (v := nI (kq + 1)) (lv2 := [(3, .int (nI (kq + 1))), (1, .long ((sp_allin ρ kq) ||| (sp_ins ρ kq))), (0, zref B r)]) o dX3_branded_21 rfl (zn_ofInt _) (by decide) rfl ?_
        refine z_goto (tgt := 4) o dX3_branded_24 (by decide) ?_
        refine zo_lv [0, 1, 2] rfl ?_
        exact ihkq (kq + 1) (by omega)
  exact LOOP (sp_nf ρ) 0 (by omega)

set_option maxHeartbeats 4000000 in
set_option maxRecDepth 100000 in
theorem c_X3_postsMove {B : zB} (hB : znn B = 95) (M : zM) (N : zN) (r : Nat) (ρ : Nat → Int32) (hR : zsh r = 2) (hok : zOkR ρ) (hg : zRg r M N ρ) : zCv B (zg B M N) yX3_postsMove cX3_postsMove 2 none 3 [zref B r] (fun g' => ∃ M1 : zM, g' = zg B M1 N ∧ zFr r M M1 ∧ zRg r M1 N (sp_moves ρ)) := by
  refine zCv_of (by decide +kernel) (Nat.le_of_ble_eq_true rfl) ?_
  intro X o kret
  show zW X B (zg B M N) 0 [(0, zref B r)] []
  obtain ⟨hnf, hnf4⟩ := ok_nf2 hok
  obtain ⟨hnc, hnc6⟩ := ok_nc2 hok
  refine z_iconst (v := 0) o dX3_postsMove_0 (by decide) ?_
  refine z_istore_n (i := 1) (lv2 := [(1, .int 0), (0, zref B r)]) o dX3_postsMove_1 rfl (by decide) rfl ?_
  have LOOP : ∀ nq kq : Nat, kq + nq = sp_nf ρ → ∀ M1 : zM, zFr r M M1 → zRg r M1 N (sp_mvF ρ kq) → zW X B (zg B M1 N) 2 [(1, .int (nI kq)), (0, zref B r)] [] := by
    intro nq
    induction nq with
    | zero =>
      intro kq hkq M1 h1 hg1
      have hz : kq = sp_nf ρ := by omega
      have hokk : zOkR (sp_mvF ρ kq) := ok_mvF hok _ (by omega)
      have e1 : M1 r 1 = nI (sp_nf ρ) := by rw [hg1.1.1, sp_mvF_ne hok _ (by omega) (fun i p _ _ => by omega)]; exact hnf
      refine z_iload_n (j := 0) o dX3_postsMove_2 rfl ?_
      refine z_aload_n (j := 1) o dX3_postsMove_3 rfl ?_
      refine zo_get (i := r) o hB dX3_postsMove_4 zf_X3_51 hR (by decide) (rfl) ?_
      refine zo_rw (y := nI (sp_nf ρ)) (e1) ?_
      refine z_icmpge (tgt := 37) o dX3_postsMove_7 (by decide) (fun c1 => ?_) (fun c1 => ?_)
      · refine z_aload_n (j := 1) o dX3_postsMove_37 rfl ?_
        refine z_dup o dX3_postsMove_38 rfl ?_
        refine zo_get (i := r) o hB dX3_postsMove_39 zf_X3_70 hR (by decide) (rfl) ?_
        refine zo_rw (y := sp_mvF ρ kq 0) (hg1.1.2.2.1) ?_
        refine z_iconst (v := 1) o dX3_postsMove_42 (by decide) ?_
        refine z_iadd o dX3_postsMove_43 ?_
        refine zo_put (i := r) o hB dX3_postsMove_44 zp_X3_70 hR (by decide) (by decide) (Nat.le_of_ble_eq_true rfl) ?_
        exact kret _ _ _ dX3_postsMove_47 ⟨_, rfl, h1.zu ⟨Nat.le_refl _, by omega⟩, by have q := hg1.fld (k := 7) (v := 0) (x := sp_mvF ρ kq 0 + 1) (by decide); rw [hz] at q ⊢; exact q⟩
      · exact absurd c1 (nI_nlt (a := kq) (b := sp_nf ρ) (by omega) (by omega))
    | succ nq ih =>
      intro kq hkq M1 h1 hg1
      have hlt : kq < sp_nf ρ := by omega
      have hokk : zOkR (sp_mvF ρ kq) := ok_mvF hok _ (by omega)
      have e1 : M1 r 1 = nI (sp_nf ρ) := by rw [hg1.1.1, sp_mvF_ne hok _ (by omega) (fun i p _ _ => by omega)]; exact hnf
      refine z_iload_n (j := 0) o dX3_postsMove_2 rfl ?_
      refine z_aload_n (j := 1) o dX3_postsMove_3 rfl ?_
      refine zo_get (i := r) o hB dX3_postsMove_4 zf_X3_51 hR (by decide) (rfl) ?_
      refine zo_rw (y := nI (sp_nf ρ)) (e1) ?_
      refine z_icmpge (tgt := 37) o dX3_postsMove_7 (by decide) (fun c2 => ?_) (fun c2 => ?_)
      · exact absurd (nI_lt (a := kq) (b := sp_nf ρ) (by omega) (by omega)) c2
      · refine z_aload_n (j := 1) o dX3_postsMove_10 rfl ?_
        refine zo_get (i := r) o hB dX3_postsMove_11 zf_X3_11 hR (by decide) (rfl) ?_
        refine z_iload_n (j := 0) o dX3_postsMove_14 rfl ?_
        refine zo_aldF (i := r + 1) (j := kq) o hB dX3_postsMove_15 (zh_R hR).1 (by rw [(zh_R hR).2.2.2.2.2.2.2.2.2.1]; omega) (by rw [(zh_R hR).2.2.2.2.2.2.2.2.2.1]; decide) ?_
        refine z_aload_n (j := 1) o dX3_postsMove_16 rfl ?_
        refine zo_get (i := r) o hB dX3_postsMove_17 zf_X3_63 hR (by decide) (rfl) ?_
        refine z_aload_n (j := 1) o dX3_postsMove_20 rfl ?_
        refine zo_get (i := r) o hB dX3_postsMove_21 zf_X3_67 hR (by decide) (rfl) ?_
        refine z_aload_n (j := 1) o dX3_postsMove_24 rfl ?_
        refine zo_get (i := r) o hB dX3_postsMove_25 zf_X3_70 hR (by decide) (rfl) ?_
        refine zo_rw (y := sp_mvF ρ kq 0) (hg1.1.2.2.1) ?_
        refine z_callVv (As := [.long (N r 5), .long (N r 6), .int (sp_mvF ρ kq 0)]) (n := 3) (st := []) o dX3_postsMove_28 (c_X0_postsMove hB M1 N (r + 8 + 2 * kq) kq (sp_mvF ρ kq) (N r 5) (N r 6) ((zh_R hR).2.2.2.2.2.2.2.1 kq (by omega)) (by omega) hokk (hg1.2.1 kq (by omega)) hg1.2.2.2.1 hg1.2.2.2.2.1) zc_X3_89 (by decide) (i := r + 8 + 2 * kq) (by rw [hB]; exact zsh_lt ((zh_R hR).2.2.2.2.2.2.2.1 kq (by omega)) (by decide)) (zg_o ((zh_R hR).2.2.2.2.2.2.2.1 kq (by omega)) (by decide)) rfl rfl rfl (Nat.le_of_ble_eq_true rfl) (fun g4 p5 => ?_)
        obtain ⟨M6, rfl, hAM6, hBM6⟩ := p5
        refine z_iinc (j := 0) (v := nI (kq + 1)) (lv2 := [(1, .int (nI (kq + 1))), (0, zref B r)]) o dX3_postsMove_31 rfl (zn_ofInt _) (by decide) rfl ?_
        refine z_goto (tgt := 2) o dX3_postsMove_34 (by decide) ?_
        refine zo_lv [0, 1] rfl ?_
        exact ih (kq + 1) (by omega) M6 (fun j hj => by rw [hAM6 j (by omega)]; exact h1 j hj) (hg1.posts (i := kq) (by omega) hAM6 hBM6 (fun k hk => sp_mvs_ne _ _ (fun p hp => hk p (by have := (ok_np2 hokk (i := kq) (by omega)).2; omega))))
  refine zo_lv [0, 1] rfl ?_
  exact LOOP (sp_nf ρ) 0 (by omega) M zFr.rf hg

