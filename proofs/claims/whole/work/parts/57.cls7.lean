/-! the class: what a Law gives; a Law is copied; a Fence stands at numbers -/
theorem clamp_eq {lo hi v : Int32} (h : ¬ hi < lo) : (if lo < (if v < hi then v else hi) then (if v < hi then v else hi) else lo) = zheld v lo hi := by
  unfold zheld
  by_cases h1 : v < lo
  · have h2 : v < hi := by rw [Int32.lt_iff_toInt_lt] at h h1 ⊢; omega
    rw [if_pos h1, if_pos h2, if_neg (by rw [Int32.lt_iff_toInt_lt] at h1 ⊢; omega)]
  · rw [if_neg h1]
    by_cases h2 : hi < v
    · have h3 : ¬ v < hi := by rw [Int32.lt_iff_toInt_lt] at h2 ⊢; omega
      rw [if_pos h2, if_neg h3]
      by_cases h4 : lo < hi
      · rw [if_pos h4]
      · rw [if_neg h4]; exact Int32.toInt_inj.mp (by rw [Int32.lt_iff_toInt_lt] at h h4; omega)
    · rw [if_neg h2]
      have e : (if v < hi then v else hi) = v := by
        by_cases h3 : v < hi
        · rw [if_pos h3]
        · rw [if_neg h3]; exact Int32.toInt_inj.mp (by rw [Int32.lt_iff_toInt_lt] at h2 h3; omega)
      rw [e]
      by_cases h4 : lo < v
      · rw [if_pos h4]
      · rw [if_neg h4]; exact Int32.toInt_inj.mp (by rw [Int32.lt_iff_toInt_lt] at h1 h4; omega)
set_option maxHeartbeats 4000000 in
set_option maxRecDepth 100000 in
theorem c_X2_gives {B : zB} (hB : znn B = 95) (M : zM) (N : zN) (w u : Nat) (ρ : Nat → Int32) (a b c : Int32) (hw : zsh w = 1) (hu : u < 2) (hok : zOkAll ρ) (hLw : zLw w u M ρ) : zCi B (zg B M N) yX2_gives cX2_gives 5 (some .int) 3 [zref B w, .int a, .int b, .int c] (fun r g' => ∃ P, g' = zg B (va_up M (w + 1) P) N ∧ r = sp_gives ρ u a b c) := by
  refine zCi_of (by decide +kernel) (Nat.le_of_ble_eq_true rfl) .int rfl (fun _ _ _ => rfl) ?_
  intro X o kret
  show zW X B (zg B M N) 0 [(0, zref B w), (1, .int a), (2, .int b), (3, .int c)] []
  obtain ⟨hL, hL60, hwf⟩ := zOkAll_u hok hu
  obtain ⟨hw0, hw3, hcode⟩ := hLw
  refine z_aload_n (j := 0) o dX2_gives_0 rfl ?_
  refine zo_get (i := w) o hB dX2_gives_1 zf_X2_18 hw (by decide) (rfl) ?_
  refine zo_rw (y := nI u) (hw0) ?_
  refine z_ifne (tgt := 42) o dX2_gives_4 (by decide) (fun c1 => ?_) (fun c1 => ?_)
  · have hu0 : ¬ u = 0 := fun q => c1 (by rw [q]; rfl)
    refine z_aload_n (j := 0) o dX2_gives_42 rfl ?_
    refine zo_get (i := w) o hB dX2_gives_43 zf_X2_35 hw (by decide) (rfl) ?_
    refine zo_rw (y := nI (sp_len ρ u)) (hw3.trans hL) ?_
    refine z_ifle (tgt := 59) o dX2_gives_46 (by decide) (fun c2 => ?_) (fun c2 => ?_)
    · have h0L : ¬ 0 < sp_len ρ u := fun q => c2 (nI_lt (a := 0) q (by omega))
      refine z_iload_n (j := 2) o dX2_gives_59 rfl ?_
      refine z_iconst (v := 1) o dX2_gives_60 (by decide) ?_
      refine z_iadd o dX2_gives_61 ?_
      refine zo_rw (y := sp_raw ρ u a b c) (by unfold sp_raw; rw [if_neg h0L, if_neg hu0]) ?_
      refine z_istore (i := 4) (lv2 := [(4, .int (sp_raw ρ u a b c)), (0, zref B w), (1, .int a), (2, .int b), (3, .int c)]) o dX2_gives_62 (by decide) rfl ?_
      refine z_bipush (v := (-9)) o dX2_gives_64 (by decide) ?_
      refine z_bipush (v := 9) o dX2_gives_66 (by decide) ?_
      refine z_iload (j := 0) o dX2_gives_68 rfl ?_
      refine z_mmin o dX2_gives_70 zm_X2_26 zn_mins zn_mi zn_minc (by decide) (Nat.le_of_ble_eq_true rfl) ?_
      refine z_mmax o dX2_gives_73 zm_X2_32 zn_maxs zn_mi zn_maxc (by decide) (Nat.le_of_ble_eq_true rfl) ?_
      exact kret _ _ _ _ dX2_gives_76 ⟨M (w + 1), congrArg (fun m => zg B m N) (va_up_id _ (w + 1)).symm, by unfold sp_gives; rw [if_neg hu0]; exact clamp_eq (by decide)⟩
    · have h0L : 0 < sp_len ρ u := (nI_ltI (a := 0) (by omega) (by omega)).mp c2
      refine z_aload_n (j := 0) o dX2_gives_49 rfl ?_
      refine z_iload_n (j := 1) o dX2_gives_50 rfl ?_
      refine z_iload_n (j := 2) o dX2_gives_51 rfl ?_
      refine z_iload_n (j := 3) o dX2_gives_52 rfl ?_
      refine z_callVi (As := [.int a, .int b, .int c]) (n := 3) (st := []) o dX2_gives_53 (c_X2_workedOut hB M N w u (sp_len ρ u) ρ a b c hw (hw3.trans hL) hL60 (hwf h0L) hcode) zc_X2_44 (by decide) (i := w) (by rw [hB]; exact zsh_lt hw (by decide)) (zg_o hw (by decide)) rfl rfl rfl (Nat.le_of_ble_eq_true rfl) (fun r3 g4 p5 => ?_)
      obtain ⟨P, rfl, er3⟩ := p5
      have hraw : r3 = sp_raw ρ u a b c := by rw [er3]; unfold sp_raw; rw [if_pos h0L]
      refine z_goto (tgt := 62) o dX2_gives_56 (by decide) ?_
      refine zo_rw (y := sp_raw ρ u a b c) (hraw) ?_
      refine z_istore (i := 4) (lv2 := [(4, .int (sp_raw ρ u a b c)), (0, zref B w), (1, .int a), (2, .int b), (3, .int c)]) o dX2_gives_62 (by decide) rfl ?_
      refine z_bipush (v := (-9)) o dX2_gives_64 (by decide) ?_
      refine z_bipush (v := 9) o dX2_gives_66 (by decide) ?_
      refine z_iload (j := 0) o dX2_gives_68 rfl ?_
      refine z_mmin o dX2_gives_70 zm_X2_26 zn_mins zn_mi zn_minc (by decide) (Nat.le_of_ble_eq_true rfl) ?_
      refine z_mmax o dX2_gives_73 zm_X2_32 zn_maxs zn_mi zn_maxc (by decide) (Nat.le_of_ble_eq_true rfl) ?_
      exact kret _ _ _ _ dX2_gives_76 ⟨_, rfl, by unfold sp_gives; rw [if_neg hu0]; exact clamp_eq (by decide)⟩
  · have hu0 : u = 0 := (nI_eq (b := 0) (by omega) (by decide)).mp c1
    refine z_aload_n (j := 0) o dX2_gives_7 rfl ?_
    refine zo_get (i := w) o hB dX2_gives_8 zf_X2_35 hw (by decide) (rfl) ?_
    refine zo_rw (y := nI (sp_len ρ u)) (hw3.trans hL) ?_
    refine z_ifle (tgt := 24) o dX2_gives_11 (by decide) (fun c6 => ?_) (fun c6 => ?_)
    · have h0L : ¬ 0 < sp_len ρ u := fun q => c6 (nI_lt (a := 0) q (by omega))
      refine z_iload_n (j := 1) o dX2_gives_24 rfl ?_
      refine z_iload_n (j := 2) o dX2_gives_25 rfl ?_
      refine z_iadd o dX2_gives_26 ?_
      refine zo_rw (y := sp_raw ρ u a b c) (by unfold sp_raw; rw [if_neg h0L, if_pos hu0]) ?_
      refine z_istore (i := 4) (lv2 := [(4, .int (sp_raw ρ u a b c)), (0, zref B w), (1, .int a), (2, .int b), (3, .int c)]) o dX2_gives_27 (by decide) rfl ?_
      refine z_iconst (v := 0) o dX2_gives_29 (by decide) ?_
      refine z_sipush (v := 999) o dX2_gives_30 (by decide) ?_
      refine z_iload (j := 0) o dX2_gives_33 rfl ?_
      refine z_mmin o dX2_gives_35 zm_X2_26 zn_mins zn_mi zn_minc (by decide) (Nat.le_of_ble_eq_true rfl) ?_
      refine z_mmax o dX2_gives_38 zm_X2_32 zn_maxs zn_mi zn_maxc (by decide) (Nat.le_of_ble_eq_true rfl) ?_
      exact kret _ _ _ _ dX2_gives_41 ⟨M (w + 1), congrArg (fun m => zg B m N) (va_up_id _ (w + 1)).symm, by unfold sp_gives; rw [if_pos hu0]; exact clamp_eq (by decide)⟩
    · have h0L : 0 < sp_len ρ u := (nI_ltI (a := 0) (by omega) (by omega)).mp c6
      refine z_aload_n (j := 0) o dX2_gives_14 rfl ?_
      refine z_iload_n (j := 1) o dX2_gives_15 rfl ?_
      refine z_iload_n (j := 2) o dX2_gives_16 rfl ?_
      refine z_iload_n (j := 3) o dX2_gives_17 rfl ?_
      refine z_callVi (As := [.int a, .int b, .int c]) (n := 3) (st := []) o dX2_gives_18 (c_X2_workedOut hB M N w u (sp_len ρ u) ρ a b c hw (hw3.trans hL) hL60 (hwf h0L) hcode) zc_X2_44 (by decide) (i := w) (by rw [hB]; exact zsh_lt hw (by decide)) (zg_o hw (by decide)) rfl rfl rfl (Nat.le_of_ble_eq_true rfl) (fun r7 g8 p9 => ?_)
      obtain ⟨P, rfl, er7⟩ := p9
      have hraw : r7 = sp_raw ρ u a b c := by rw [er7]; unfold sp_raw; rw [if_pos h0L]
      refine z_goto (tgt := 27) o dX2_gives_21 (by decide) ?_
      refine zo_rw (y := sp_raw ρ u a b c) (hraw) ?_
      refine z_istore (i := 4) (lv2 := [(4, .int (sp_raw ρ u a b c)), (0, zref B w), (1, .int a), (2, .int b), (3, .int c)]) o dX2_gives_27 (by decide) rfl ?_
      refine z_iconst (v := 0) o dX2_gives_29 (by decide) ?_
      refine z_sipush (v := 999) o dX2_gives_30 (by decide) ?_
      refine z_iload (j := 0) o dX2_gives_33 rfl ?_
      refine z_mmin o dX2_gives_35 zm_X2_26 zn_mins zn_mi zn_minc (by decide) (Nat.le_of_ble_eq_true rfl) ?_
      refine z_mmax o dX2_gives_38 zm_X2_32 zn_maxs zn_mi zn_maxc (by decide) (Nat.le_of_ble_eq_true rfl) ?_
      exact kret _ _ _ _ dX2_gives_41 ⟨_, rfl, by unfold sp_gives; rw [if_pos hu0]; exact clamp_eq (by decide)⟩

def tc_M (M : zM) (w a n : Nat) : zM := va_up (zu M w 3 (nI n)) (w + 2) (va_cpy (M a) (M (w + 2)) 0 0 n)
theorem tc_cl {n : Nat} (hn : n ≤ 60) : (if 0 < (if nI 60 < nI n then nI 60 else nI n) then (if nI 60 < nI n then nI 60 else nI n) else 0) = nI n := by
  rw [if_neg (nI_nlt (a := 60) hn (by decide))]
  split
  · rfl
  · rename_i q
    have : n = 0 := by
      rcases Nat.eq_zero_or_pos n with z | z
      · exact z
      · exact absurd (nI_lt (a := 0) z (by omega)) q
    rw [this]; rfl
set_option maxHeartbeats 4000000 in
set_option maxRecDepth 100000 in
theorem c_X2_takeCode {B : zB} (hB : znn B = 95) (M : zM) (N : zN) (w a n : Nat) (hw : zsh w = 1) (hsa : zsh a = 10) (hla : zln a = 60) (hn : n ≤ 60) (ha1 : a ≠ w) (ha2 : a ≠ w + 2) : zCv B (zg B M N) yX2_takeCode cX2_takeCode 3 none 1 [zref B w, zref B a, .int (nI n)] (fun g' => g' = zg B (tc_M M w a n) N) := by
  refine zCv_of (by decide +kernel) (Nat.le_of_ble_eq_true rfl) ?_
  intro X o kret
  show zW X B (zg B M N) 0 [(0, zref B w), (1, zref B a), (2, .int (nI n))] []
  refine z_aload_n (j := 0) o dX2_takeCode_0 rfl ?_
  refine z_iconst (v := 0) o dX2_takeCode_1 (by decide) ?_
  refine z_iload_n (j := 2) o dX2_takeCode_2 rfl ?_
  refine z_aload_n (j := 1) o dX2_takeCode_3 rfl ?_
  refine zo_leni (i := a) o hB dX2_takeCode_4 hsa ?_
  refine zo_rw (y := nI 60) (by rw [hla]) ?_
  refine z_aload_n (j := 0) o dX2_takeCode_5 rfl ?_
  refine zo_get (i := w) o hB dX2_takeCode_6 zf_X2_15 hw (by decide) (rfl) ?_
  refine zo_leni (i := w + 2) o hB dX2_takeCode_9 (zh_L2 hw) ?_
  refine zo_rw (y := nI 60) (by rw [(zh_L2n hw)]) ?_
  refine z_mmin o dX2_takeCode_10 zm_X2_26 zn_mins zn_mi zn_minc (by decide) (Nat.le_of_ble_eq_true rfl) ?_
  refine z_mmin o dX2_takeCode_13 zm_X2_26 zn_mins zn_mi zn_minc (by decide) (Nat.le_of_ble_eq_true rfl) ?_
  refine z_mmax o dX2_takeCode_16 zm_X2_32 zn_maxs zn_mi zn_maxc (by decide) (Nat.le_of_ble_eq_true rfl) ?_
  refine zo_rw (y := nI n) (by
    have e1 : (if nI 60 < nI 60 then nI 60 else nI 60) = nI 60 := by split <;> rfl
    first | (rw [e1]; exact tc_cl hn) | exact tc_cl hn) ?_
  refine zo_put (i := w) o hB dX2_takeCode_19 zp_X2_35 hw (by decide) (by decide) (Nat.le_of_ble_eq_true rfl) ?_
  refine z_aload_n (j := 1) o dX2_takeCode_22 rfl ?_
  refine z_iconst (v := 0) o dX2_takeCode_23 (by decide) ?_
  refine z_aload_n (j := 0) o dX2_takeCode_24 rfl ?_
  refine zo_get (i := w) o hB dX2_takeCode_25 zf_X2_15 hw (by decide) (rfl) ?_
  refine z_iconst (v := 0) o dX2_takeCode_28 (by decide) ?_
  refine z_aload_n (j := 0) o dX2_takeCode_29 rfl ?_
  refine zo_get (i := w) o hB dX2_takeCode_30 zf_X2_35 hw (by decide) (rfl) ?_
  refine zo_rw (y := nI n) (by rw [zu_at, upd_self]) ?_
  refine z_copyi (i0 := a) (i1 := w + 2) o dX2_takeCode_33 zm_X2_38 zn_ac zn_as zn_ai (by rw [hB]; exact zsh_lt hsa (by decide)) (by rw [hB]; exact zsh_lt (zh_L2 hw) (by decide)) (zg_i hsa) (zg_i (zh_L2 hw)) (by decide) (by decide) (nI_pos (by omega)) (by rw [hla, nI_clamp (by omega)]; show 0 + n ≤ 60; omega) (by rw [zh_L2n hw, nI_clamp (by omega)]; show 0 + n ≤ 60; omega) (by decide) (Nat.le_of_ble_eq_true rfl) ?_
  rw [zg_ist (zh_L2 hw)]
  rw [show va_up (zu M w 3 (nI n)) (w + 2) (va_cpy ((zu M w 3 (nI n)) a) ((zu M w 3 (nI n)) (w + 2)) (Int32.toNatClampNeg 0) (Int32.toNatClampNeg 0) (Int32.toNatClampNeg (nI n))) = tc_M M w a n from by
    unfold tc_M
    rw [zu_ne (by omega), zu_ne (by omega), nI_clamp (by omega)]; rfl]
  exact kret _ _ _ dX2_takeCode_36 rfl

