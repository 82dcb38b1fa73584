/-! the class: a Range (3) -/
set_option maxHeartbeats 4000000 in
set_option maxRecDepth 100000 in
theorem c_X3_graze {B : zB} (hB : znn B = 95) (M : zM) (N : zN) (r f i : Nat) (ρ : Nat → Int32) (hR : zsh r = 2) (hok : zOkAll ρ) (hg : zRg r M N ρ) (hf : zsh f = 0) (hF : zFn f M ρ i) : zCi B (zg B M N) yX3_graze cX3_graze 4 (some .int) 4 [zref B r, zref B f, .long (sp_ins ρ i)] (fun x g' => ∃ P, g' = zg B (va_up M (r + 16 + 1) P) N ∧ x = sp_graze ρ i) := by
  refine zCi_of (by decide +kernel) (Nat.le_of_ble_eq_true rfl) .int rfl (fun _ _ _ => rfl) ?_
  intro X o kret
  show zW X B (zg B M N) 0 [(0, zref B r), (1, zref B f), (2, .long (sp_ins ρ i))] []
  refine z_aload_n (j := 0) o dX3_graze_0 rfl ?_
  refine zo_get (i := r) o hB dX3_graze_1 zf_X3_32 hR (by decide) (rfl) ?_
  refine z_iconst (v := 0) o dX3_graze_4 (by decide) ?_
  refine zo_aldL (i := r + 5) (j := 0) o hB dX3_graze_5 (zh_R hR).2.2.2.2.1 (by rw [(zh_R hR).2.2.2.2.2.2.2.2.2.2.2.2.2.1]; omega) (by rw [(zh_R hR).2.2.2.2.2.2.2.2.2.2.2.2.2.1]; decide) ?_
  refine z_lload_n (j := 2) o dX3_graze_6 rfl ?_
  refine z_callSi (As := [.long (sp_ins ρ i)]) (n := 1) (st := [zref B (r + 16)]) o dX3_graze_7 (c_J13_bitCount hB M N (sp_ins ρ i)) zc_X3_129 (by decide) rfl rfl (Nat.le_of_ble_eq_true rfl) (fun r1 g2 p3 => ?_)
  obtain ⟨rfl, rfl⟩ := p3
  refine z_aload_n (j := 1) o dX3_graze_10 rfl ?_
  refine zo_get (i := f) o hB dX3_graze_11 zf_X3_135 hf (by decide) (rfl) ?_
  refine zo_rw (y := ρ (6 + 13 * i + 3)) (hF.1) ?_
  refine z_aload_n (j := 1) o dX3_graze_14 rfl ?_
  refine zo_get (i := f) o hB dX3_graze_15 zf_X3_138 hf (by decide) (rfl) ?_
  refine zo_rw (y := ρ (6 + 13 * i + 0)) (hF.2.1) ?_
  refine z_callVi (As := [.int (nI (lpop (sp_ins ρ i))), .int (ρ (6 + 13 * i + 3)), .int (ρ (6 + 13 * i + 0))]) (n := 3) (st := []) o dX3_graze_18 (c_X2_gives hB M N (r + 16) 0 ρ (nI (lpop (sp_ins ρ i))) (ρ (6 + 13 * i + 3)) (ρ (6 + 13 * i + 0)) ((zh_R hR).2.2.2.2.2.2.2.2.1 0 (by omega)) (by decide) hok (hg.2.2.2.2.2.2.2 0 (by decide))) zc_X3_122 (by decide) (i := r + 16) (by rw [hB]; exact zsh_lt ((zh_R hR).2.2.2.2.2.2.2.2.1 0 (by omega)) (by decide)) (zg_o ((zh_R hR).2.2.2.2.2.2.2.2.1 0 (by omega)) (by decide)) rfl rfl rfl (Nat.le_of_ble_eq_true rfl) (fun r4 g5 p6 => ?_)
  obtain ⟨P7, rfl, rfl⟩ := p6
  exact kret _ _ _ _ dX3_graze_21 ⟨_, rfl, rfl⟩

