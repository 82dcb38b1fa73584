/-! the class: a Range (6) -/
set_option maxHeartbeats 4000000 in
set_option maxRecDepth 100000 in
theorem c_X3_draw {B : zB} (hB : znn B = 95) (M : zM) (N : zN) (r : Nat) (ρ : Nat → Int32) (hR : zsh r = 2) (hg : zRg r M N ρ) : zCi B (zg B M N) yX3_draw cX3_draw 1 (some .int) 0 [zref B r] (fun x g' => ∃ M1 : zM, g' = zg B M1 N ∧ zFr r M M1 ∧ zRg r M1 N (sp_draw ρ) ∧ x = sp_dr ρ) := by
  refine zCi_of (by decide +kernel) (Nat.le_of_ble_eq_true rfl) .int rfl (fun _ _ _ => rfl) ?_
  intro X o kret
  show zW X B (zg B M N) 0 [(0, zref B r)] []
  refine z_aload_n (j := 0) o dX3_draw_0 rfl ?_
  refine z_aload_n (j := 0) o dX3_draw_1 rfl ?_
  refine zo_get (i := r) o hB dX3_draw_2 zf_X3_22 hR (by decide) (rfl) ?_
  refine zo_rw (y := ρ 1) (hg.1.2.2.2.1) ?_
  refine z_ldc (v := 1103515245) o dX3_draw_5 zk_X3_154 ?_
  refine z_imul o dX3_draw_7 ?_
  refine z_sipush (v := 12345) o dX3_draw_8 (by decide) ?_
  refine z_iadd o dX3_draw_11 ?_
  refine zo_put (i := r) o hB dX3_draw_12 zp_X3_22 hR (by decide) (by decide) (Nat.le_of_ble_eq_true rfl) ?_
  refine z_aload_n (j := 0) o dX3_draw_15 rfl ?_
  refine zo_get (i := r) o hB dX3_draw_16 zf_X3_22 hR (by decide) (rfl) ?_
  refine zo_rw (y := sp_z1 (ρ 1)) (by rw [zu_at, upd_self]; rfl) ?_
  refine z_bipush (v := 8) o dX3_draw_19 (by decide) ?_
  refine z_iushr o dX3_draw_21 ?_
  exact kret _ _ _ _ dX3_draw_22 ⟨_, rfl, zFr.rf.zu ⟨Nat.le_refl _, by omega⟩, hg.fld (k := 8) (v := 1) (by decide), rfl⟩

