/-! the class: salts -/
set_option maxHeartbeats 4000000 in
set_option maxRecDepth 100000 in
theorem c_X7_isInsideSalted {B : zB} (hB : znn B = 95) (M : zM) (N : zN) (A : zM) (fa cc na : Nat) (pa pb : Int32) (more : Int64) (hR : zRl M N A) (hok : zOkAll (A 83)) (hfa : fa < sp_nf (A 83)) (hcc : cc < 64) (hna : na ≤ 6) (hpa : zCell pa) (hpb : zCell pb) (hmore : zBits (N 1 5 ||| more) (sp_salt (A 83) pa pb) 70) : zCi B (zg B M N) yX7_isInsideSalted cX7_isInsideSalted 8 (some .boolean) 4 [zref B 0, .int (nI fa), .int (nI cc), .int (nI na), .long more] (fun x g' => ∃ M1 : zM, g' = zg B M1 N ∧ (∀ j, j ≠ 53 + 2 * fa → j ≠ 54 + 2 * fa → M1 j = M j) ∧ x = (if sp_hadB (A 83) fa cc na pa pb = true then 1 else 0)) := by
  refine zCi_of (by decide +kernel) (Nat.le_of_ble_eq_true rfl) .boolean rfl (fun r _ hp => by obtain ⟨M9, q1, q2, q3⟩ := hp; exact zin_z r (by rw [q3]; split <;> simp)) ?_
  intro X o kret
  show zW X B (zg B M N) 0 [(0, zref B 0), (1, .int (nI fa)), (2, .int (nI cc)), (3, .int (nI na)), (4, .long more)] []
  obtain ⟨hnf, hnf4⟩ := ok_nf2 hok.1
  have hok2 : zOkR (sp_salt (A 83) pa pb) := ok_salt1 (ok_salt1 hok.1 hpa) hpb
  have hsn : ∀ k, k < 70 ∨ 134 ≤ k → (sp_salt (A 83) pa pb) k = A 83 k := fun k hk => salt_ne hpa hpb hk
  have enf2 : sp_nf (sp_salt (A 83) pa pb) = sp_nf (A 83) := by unfold sp_nf; rw [hsn _ (by omega)]
  refine z_aload_n (j := 0) o dX7_isInsideSalted_0 rfl ?_
  refine zo_get (i := 0) o hB dX7_isInsideSalted_1 zf_X7_19 rfl (by decide) (rfl) ?_
  refine zo_get (i := 45) o hB dX7_isInsideSalted_4 zf_X7_62 rfl (by decide) (rfl) ?_
  refine z_iload_n (j := 1) o dX7_isInsideSalted_7 rfl ?_
  refine zo_aldF (i := 46) (j := fa) o hB dX7_isInsideSalted_8 rfl (show fa < 4 by omega) (by decide) ?_
  refine z_astore (i := 6) (lv2 := [(6, zref B (53 + 2 * fa)), (0, zref B 0), (1, .int (nI fa)), (2, .int (nI cc)), (3, .int (nI na)), (4, .long more)]) o dX7_isInsideSalted_9 (by decide) rfl ?_
  refine z_aload (j := 0) o dX7_isInsideSalted_11 rfl ?_
  refine z_aload_n (j := 1) o dX7_isInsideSalted_13 rfl ?_
  refine zo_get (i := 0) o hB dX7_isInsideSalted_14 zf_X7_10 rfl (by decide) (rfl) ?_
  refine zo_get (i := 1) o hB dX7_isInsideSalted_17 zf_X7_62 rfl (by decide) (rfl) ?_
  refine z_iload_n (j := 2) o dX7_isInsideSalted_20 rfl ?_
  refine zo_aldF (i := 2) (j := fa) o hB dX7_isInsideSalted_21 rfl (show fa < 4 by omega) (by decide) ?_
  refine z_callVv (As := [zref B (9 + 2 * fa)]) (n := 1) (st := []) o dX7_isInsideSalted_22 (c_X0_takeAll hB M N (53 + 2 * fa) (9 + 2 * fa) ((zh_R (r := 45) rfl).2.2.2.2.2.2.2.1 fa (by omega)) ((zh_R (r := 1) rfl).2.2.2.2.2.2.2.1 fa (by omega)) (by omega) (by omega)) zc_X7_305 (by decide) (i := 53 + 2 * fa) (by rw [hB]; exact zsh_lt ((zh_R (r := 45) rfl).2.2.2.2.2.2.2.1 fa (by omega)) (by decide)) (zg_o ((zh_R (r := 45) rfl).2.2.2.2.2.2.2.1 fa (by omega)) (by decide)) rfl rfl rfl (Nat.le_of_ble_eq_true rfl) (fun g2 p3 => ?_)
  cases p3
  have hF0 : zFn (53 + 2 * fa) (tk_M M (53 + 2 * fa) (9 + 2 * fa)) (sp_movesN (sp_salt (A 83) pa pb) 0) fa := (tk_fn (hR.1.2.1 fa (by omega))).cg rfl rfl (fun j hj => hsn _ (by omega))
  refine z_iconst (v := 0) o dX7_isInsideSalted_25 (by decide) ?_
  refine z_istore (i := 7) (lv2 := [(7, .int 0), (6, zref B (53 + 2 * fa)), (0, zref B 0), (1, .int (nI fa)), (2, .int (nI cc)), (3, .int (nI na)), (4, .long more)]) o dX7_isInsideSalted_26 (by decide) rfl ?_
  have LOOP : ∀ nq kq : Nat, kq + nq = na → ∀ M1 : zM, (∀ j, j ≠ 53 + 2 * fa → j ≠ 54 + 2 * fa → M1 j = M j) → zFn (53 + 2 * fa) M1 (sp_movesN (sp_salt (A 83) pa pb) kq) fa → zW X B (zg B M1 N) 28 [(7, .int (nI kq)), (6, zref B (53 + 2 * fa)), (0, zref B 0), (1, .int (nI fa)), (2, .int (nI cc)), (3, .int (nI na)), (4, .long more)] [] := by
    intro nq
    induction nq with
    | zero =>
      intro kq hkq M1 hm1 hF1
      obtain rfl : kq = na := by omega
      have hokk := ok_movesN hok2 kq
      refine z_iload (j := 0) o dX7_isInsideSalted_28 rfl ?_
      refine z_iload_n (j := 5) o dX7_isInsideSalted_30 rfl ?_
      refine z_icmpge (tgt := 72) o dX7_isInsideSalted_31 (by decide) (fun c4 => ?_) (fun c4 => ?_)
      · refine z_aload (j := 1) o dX7_isInsideSalted_72 rfl ?_
        refine z_callVl (As := []) (n := 0) (st := []) o dX7_isInsideSalted_74 (c_X0_inside hB M1 N (53 + 2 * fa) fa (sp_movesN (sp_salt (A 83) pa pb) kq) ((zh_R (r := 45) rfl).2.2.2.2.2.2.2.1 fa (by omega)) (by omega) hokk hF1) zc_X7_98 (by decide) (i := 53 + 2 * fa) (by rw [hB]; exact zsh_lt ((zh_R (r := 45) rfl).2.2.2.2.2.2.2.1 fa (by omega)) (by decide)) (zg_o ((zh_R (r := 45) rfl).2.2.2.2.2.2.2.1 fa (by omega)) (by decide)) rfl rfl rfl (Nat.le_of_ble_eq_true rfl) (fun r5 g6 p7 => ?_)
        obtain ⟨rfl, rfl⟩ := p7
        refine z_iload_n (j := 4) o dX7_isInsideSalted_77 rfl ?_
        refine z_callSi (As := [.long (sp_ins (sp_movesN (sp_salt (A 83) pa pb) kq) fa), .int (nI cc)]) (n := 2) (st := []) o dX7_isInsideSalted_78 (c_X1_has hB M1 N (sp_ins (sp_movesN (sp_salt (A 83) pa pb) kq) fa) (nI cc)) zc_X7_139 (by decide) rfl rfl (Nat.le_of_ble_eq_true rfl) (fun r8 g9 p10 => ?_)
        obtain ⟨rfl, rfl⟩ := p10
        exact kret _ _ _ _ dX7_isInsideSalted_81 ⟨M1, rfl, hm1, by rw [has_hasB hcc]; rfl⟩
      · exact absurd c4 (nI_nlt (a := kq) (b := kq) (by omega) (by omega))
    | succ nq ih =>
      intro kq hkq M1 hm1 hF1
      have hlt : kq < na := by omega
      have hokk := ok_movesN hok2 kq
      refine z_iload (j := 0) o dX7_isInsideSalted_28 rfl ?_
      refine z_iload_n (j := 5) o dX7_isInsideSalted_30 rfl ?_
      refine z_icmpge (tgt := 72) o dX7_isInsideSalted_31 (by decide) (fun c11 => ?_) (fun c11 => ?_)
      · exact absurd (nI_lt (a := kq) (b := na) (by omega) (by omega)) c11
      · refine z_aload (j := 1) o dX7_isInsideSalted_34 rfl ?_
        refine z_aload_n (j := 2) o dX7_isInsideSalted_36 rfl ?_
        refine zo_get (i := 0) o hB dX7_isInsideSalted_37 zf_X7_10 rfl (by decide) (rfl) ?_
        refine zo_get (i := 1) o hB dX7_isInsideSalted_40 zf_X7_126 rfl (by decide) (rfl) ?_
        refine z_lload (j := 6) o dX7_isInsideSalted_43 rfl ?_
        refine z_lor o dX7_isInsideSalted_45 ?_
        refine z_aload_n (j := 2) o dX7_isInsideSalted_46 rfl ?_
        refine zo_get (i := 0) o hB dX7_isInsideSalted_47 zf_X7_10 rfl (by decide) (rfl) ?_
        refine zo_get (i := 1) o hB dX7_isInsideSalted_50 zf_X7_130 rfl (by decide) (rfl) ?_
        refine z_aload_n (j := 2) o dX7_isInsideSalted_53 rfl ?_
        refine zo_get (i := 0) o hB dX7_isInsideSalted_54 zf_X7_10 rfl (by decide) (rfl) ?_
        refine zo_get (i := 1) o hB dX7_isInsideSalted_57 zf_X7_116 rfl (by decide) (rfl) ?_
        refine zo_rw (y := A 83 0) ((by rw [hm1 1 (by omega) (by omega)]; exact hR.1.1.2.2.1)) ?_
        refine z_iload (j := 0) o dX7_isInsideSalted_60 rfl ?_
        refine z_iadd o dX7_isInsideSalted_62 ?_
        refine zo_rw (y := (sp_movesN (sp_salt (A 83) pa pb) kq) 0) (by rw [movesN_0 hok2, hsn 0 (by omega)]) ?_
        refine z_callVv (As := [.long ((N 1 5) ||| more), .long (N 1 6), .int ((sp_movesN (sp_salt (A 83) pa pb) kq) 0)]) (n := 3) (st := []) o dX7_isInsideSalted_63 (c_X0_postsMove hB M1 N (53 + 2 * fa) fa (sp_movesN (sp_salt (A 83) pa pb) kq) ((N 1 5) ||| more) (N 1 6) ((zh_R (r := 45) rfl).2.2.2.2.2.2.2.1 fa (by omega)) (by omega) hokk hF1 (hmore.cg (fun c _ => sp_movesN_ne hok2 (by omega) (fun _ _ _ _ => by omega) kq)) (hR.1.2.2.2.2.1.cg (fun c _ => (sp_movesN_ne hok2 (by omega) (fun _ _ _ _ => by omega) kq).trans (hsn _ (by omega))))) zc_X7_308 (by decide) (i := 53 + 2 * fa) (by rw [hB]; exact zsh_lt ((zh_R (r := 45) rfl).2.2.2.2.2.2.2.1 fa (by omega)) (by decide)) (zg_o ((zh_R (r := 45) rfl).2.2.2.2.2.2.2.1 fa (by omega)) (by decide)) rfl rfl rfl (Nat.le_of_ble_eq_true rfl) (fun g13 p14 => ?_)
        obtain ⟨M15, rfl, hAM15, hBM15⟩ := p14
        have hm2 : ∀ j, j ≠ 53 + 2 * fa → j ≠ 54 + 2 * fa → M15 j = M j := fun j a b => (hAM15 j (by omega)).trans (hm1 j a b)
        have hF2 : zFn (53 + 2 * fa) M15 (sp_movesN (sp_salt (A 83) pa pb) (kq + 1)) fa := by
          obtain ⟨b1, b2, b3, b4, b5, b6⟩ := hF1
          have e : ∀ j, j < 5 → sp_movesN (sp_salt (A 83) pa pb) (kq + 1) (6 + 13 * fa + j) = (sp_movesN (sp_salt (A 83) pa pb) kq) (6 + 13 * fa + j) := fun j hj => sp_moves_ne hokk (by omega) (fun i p _ _ => by omega)
          refine ⟨?_, ?_, ?_, ?_, ?_, fun p hp => ?_⟩
          · rw [hAM15 _ (by omega), e 3 (by decide)]; exact b1
          · rw [hAM15 _ (by omega), e 0 (by decide)]; exact b2
          · rw [hAM15 _ (by omega), e 1 (by decide)]; exact b3
          · rw [hAM15 _ (by omega), e 2 (by decide)]; exact b4
          · rw [hAM15 _ (by omega), e 4 (by decide)]; exact b5
          · rw [hBM15 p hp]; exact (moves_mvs hokk (by rw [movesN_nf hok2, enf2]; exact hfa) hp).symm
        refine z_iinc (j := 0) (v := nI (kq + 1)) (lv2 := [(7, .int (nI (kq + 1))), (6, zref B (53 + 2 * fa)), (0, zref B 0), (1, .int (nI fa)), (2, .int (nI cc)), (3, .int (nI na)), (4, .long more)]) o dX7_isInsideSalted_66 rfl (zn_ofInt _) (by decide) rfl ?_
        refine z_goto (tgt := 28) o dX7_isInsideSalted_69 (by decide) ?_
        refine zo_lv [0, 1, 2, 3, 4, 5, 6] rfl ?_
        exact ih (kq + 1) (by omega) _ hm2 hF2
  refine zo_lv [0, 1, 2, 3, 4, 5, 6] rfl ?_
  exact LOOP na 0 (by omega) _ (fun j a b => tk_ne a (by omega)) hF0

