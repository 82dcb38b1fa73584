/-! the class: a Fence is copied; it stands at numbers; a Law joins -/
def tk_M (M : zM) (f f2 : Nat) : zM := zu (zu (zu (zu (zu (va_up M (f + 1) (va_cpy (M (f2 + 1)) (M (f + 1)) 0 0 8)) f 1 (M f2 1)) f 2 (M f2 2)) f 3 (M f2 3)) f 4 (M f2 4)) f 5 (M f2 5)
set_option maxHeartbeats 4000000 in
set_option maxRecDepth 100000 in
theorem c_X0_takeAll {B : zB} (hB : znn B = 95) (M : zM) (N : zN) (f f2 : Nat) (hf : zsh f = 0) (hf2 : zsh f2 = 0) (h1 : f ≠ f2) (h2 : f + 1 ≠ f2) : zCv B (zg B M N) yX0_takeAll cX0_takeAll 2 none 1 [zref B f, zref B f2] (fun g' => g' = zg B (tk_M M f f2) N) := by
  refine zCv_of (by decide +kernel) (Nat.le_of_ble_eq_true rfl) ?_
  intro X o kret
  show zW X B (zg B M N) 0 [(0, zref B f), (1, zref B f2)] []
  refine z_aload_n (j := 1) o dX0_takeAll_0 rfl ?_
  refine zo_get (i := f2) o hB dX0_takeAll_1 zf_X0_11 hf2 (by decide) (rfl) ?_
  refine z_iconst (v := 0) o dX0_takeAll_4 (by decide) ?_
  refine z_aload_n (j := 0) o dX0_takeAll_5 rfl ?_
  refine zo_get (i := f) o hB dX0_takeAll_6 zf_X0_11 hf (by decide) (rfl) ?_
  refine z_iconst (v := 0) o dX0_takeAll_9 (by decide) ?_
  refine z_bipush (v := 8) o dX0_takeAll_10 (by decide) ?_
  refine z_copyi (i0 := f2 + 1) (i1 := f + 1) o dX0_takeAll_12 zm_X0_31 zn_ac zn_as zn_ai (by rw [hB]; exact zsh_lt (zh_F hf2) (by decide)) (by rw [hB]; exact zsh_lt (zh_F hf) (by decide)) (zg_i (zh_F hf2)) (zg_i (zh_F hf)) (by decide) (by decide) (by decide) (by rw [zh_Fn hf2]; decide) (by rw [zh_Fn hf]; decide) (by decide) (Nat.le_of_ble_eq_true rfl) ?_
  rw [zg_ist (zh_F hf)]
  rw [show va_up M (f + 1) (va_cpy (M (f2 + 1)) (M (f + 1)) (Int32.toNatClampNeg 0) (Int32.toNatClampNeg 0) (Int32.toNatClampNeg 8)) = va_up M (f + 1) (va_cpy (M (f2 + 1)) (M (f + 1)) 0 0 8) from rfl]
  refine z_aload_n (j := 0) o dX0_takeAll_15 rfl ?_
  refine z_aload_n (j := 1) o dX0_takeAll_16 rfl ?_
  refine zo_get (i := f2) o hB dX0_takeAll_17 zf_X0_25 hf2 (by decide) (rfl) ?_
  refine zo_rw (y := M f2 1) (by rw [va_up_ne _ _ (Ne.symm h2)]) ?_
  refine zo_put (i := f) o hB dX0_takeAll_20 zp_X0_25 hf (by decide) (by decide) (Nat.le_of_ble_eq_true rfl) ?_
  refine z_aload_n (j := 0) o dX0_takeAll_23 rfl ?_
  refine z_aload_n (j := 1) o dX0_takeAll_24 rfl ?_
  refine zo_get (i := f2) o hB dX0_takeAll_25 zf_X0_15 hf2 (by decide) (rfl) ?_
  refine zo_rw (y := M f2 2) (by rw [zu_ne (Ne.symm h1), va_up_ne _ _ (Ne.symm h2)]) ?_
  refine zo_put (i := f) o hB dX0_takeAll_28 zp_X0_15 hf (by decide) (by decide) (Nat.le_of_ble_eq_true rfl) ?_
  refine z_aload_n (j := 0) o dX0_takeAll_31 rfl ?_
  refine z_aload_n (j := 1) o dX0_takeAll_32 rfl ?_
  refine zo_get (i := f2) o hB dX0_takeAll_33 zf_X0_19 hf2 (by decide) (rfl) ?_
  refine zo_rw (y := M f2 3) (by rw [zu_ne (Ne.symm h1), zu_ne (Ne.symm h1), va_up_ne _ _ (Ne.symm h2)]) ?_
  refine zo_put (i := f) o hB dX0_takeAll_36 zp_X0_19 hf (by decide) (by decide) (Nat.le_of_ble_eq_true rfl) ?_
  refine z_aload_n (j := 0) o dX0_takeAll_39 rfl ?_
  refine z_aload_n (j := 1) o dX0_takeAll_40 rfl ?_
  refine zo_get (i := f2) o hB dX0_takeAll_41 zf_X0_22 hf2 (by decide) (rfl) ?_
  refine zo_rw (y := M f2 4) (by rw [zu_ne (Ne.symm h1), zu_ne (Ne.symm h1), zu_ne (Ne.symm h1), va_up_ne _ _ (Ne.symm h2)]) ?_
  refine zo_put (i := f) o hB dX0_takeAll_44 zp_X0_22 hf (by decide) (by decide) (Nat.le_of_ble_eq_true rfl) ?_
  refine z_aload_n (j := 0) o dX0_takeAll_47 rfl ?_
  refine z_aload_n (j := 1) o dX0_takeAll_48 rfl ?_
  refine zo_get (i := f2) o hB dX0_takeAll_49 zf_X0_28 hf2 (by decide) (rfl) ?_
  refine zo_rw (y := M f2 5) (by rw [zu_ne (Ne.symm h1), zu_ne (Ne.symm h1), zu_ne (Ne.symm h1), zu_ne (Ne.symm h1), va_up_ne _ _ (Ne.symm h2)]) ?_
  refine zo_put (i := f) o hB dX0_takeAll_52 zp_X0_28 hf (by decide) (by decide) (Nat.le_of_ble_eq_true rfl) ?_
  exact kret _ _ _ dX0_takeAll_55 rfl

theorem tk_ne {M : zM} {f f2 j : Nat} (h1 : j ≠ f) (h2 : j ≠ f + 1) : tk_M M f f2 j = M j := by
  unfold tk_M
  rw [zu_ne h1, zu_ne h1, zu_ne h1, zu_ne h1, zu_ne h1, va_up_ne _ _ h2]
theorem tk_fn {M : zM} {f f2 i : Nat} {ρ : Nat → Int32} (h : zFn f2 M ρ i) : zFn f (tk_M M f f2) ρ i := by
  unfold tk_M
  refine ⟨?_, ?_, ?_, ?_, ?_, fun p hp => ?_⟩
  · rw [zu_at, upd_ne (by decide), zu_at, upd_ne (by decide), zu_at, upd_ne (by decide), zu_at, upd_ne (by decide), zu_at, upd_self]; exact h.1
  · rw [zu_at, upd_ne (by decide), zu_at, upd_ne (by decide), zu_at, upd_ne (by decide), zu_at, upd_self]; exact h.2.1
  · rw [zu_at, upd_ne (by decide), zu_at, upd_ne (by decide), zu_at, upd_self]; exact h.2.2.1
  · rw [zu_at, upd_ne (by decide), zu_at, upd_self]; exact h.2.2.2.1
  · rw [zu_at, upd_self]; exact h.2.2.2.2.1
  · rw [zu_ne (by omega), zu_ne (by omega), zu_ne (by omega), zu_ne (by omega), zu_ne (by omega), va_up_self]
    show (if 0 ≤ p ∧ p < 0 + 8 then M (f2 + 1) (0 + (p - 0)) else M (f + 1) p) = _
    rw [if_pos ⟨Nat.zero_le _, by omega⟩, Nat.zero_add, Nat.sub_zero]
    exact h.2.2.2.2.2 p hp
set_option maxHeartbeats 4000000 in
set_option maxRecDepth 100000 in
theorem c_X2_truth {B : zB} (hB : znn B = 95) (M : zM) (N : zN) (v : Int32) : zCi B (zg B M N) yX2_truth cX2_truth 1 (some .int) 0 [.int v] (fun r g' => g' = zg B M N ∧ r = (if v = 0 then 0 else 1)) := by
  refine zCi_of (by decide +kernel) (Nat.le_of_ble_eq_true rfl) .int rfl (fun _ _ _ => rfl) ?_
  intro X o kret
  show zW X B (zg B M N) 0 [(0, .int v)] []
  refine z_iload_n (j := 0) o dX2_truth_0 rfl ?_
  refine z_ifeq (tgt := 8) o dX2_truth_1 (by decide) (fun c1 => ?_) (fun c1 => ?_)
  · refine z_iconst (v := 0) o dX2_truth_8 (by decide) ?_
    exact kret _ _ _ _ dX2_truth_9 ⟨rfl, by split <;> first | rfl | contradiction⟩
  · refine z_iconst (v := 1) o dX2_truth_4 (by decide) ?_
    refine z_goto (tgt := 9) o dX2_truth_5 (by decide) ?_
    exact kret _ _ _ _ dX2_truth_9 ⟨rfl, by split <;> first | rfl | contradiction⟩

