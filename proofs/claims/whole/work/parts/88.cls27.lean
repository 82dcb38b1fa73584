/-! the class: its calls (1) -/
set_option maxHeartbeats 4000000 in
set_option maxRecDepth 100000 in
theorem c_X7_error {B : zB} (hB : znn B = 95) (M : zM) (N : zN) (k : Nat) (hk1 : 1 ≤ k) (hk : k < 7) : zCi B (zg B M N) yX7_error cX7_error 2 (some .int) 0 [zref B 0, .int (nI k)] (fun r g' => g' = zg B (zu M 73 k (M 73 k + 1)) N ∧ r = zE k) := by
  refine zCi_of (by decide +kernel) (Nat.le_of_ble_eq_true rfl) .int rfl (fun _ _ _ => rfl) ?_
  intro X o kret
  show zW X B (zg B M N) 0 [(0, zref B 0), (1, .int (nI k))] []
  refine z_iload_n (j := 1) o dX7_error_0 rfl ?_
  refine z_iflt (tgt := 23) o dX7_error_1 (by decide) (fun c1 => ?_) (fun c1 => ?_)
  · exact absurd c1 (nI_pos (by omega))
  · refine z_iload_n (j := 1) o dX7_error_4 rfl ?_
    refine z_aload_n (j := 0) o dX7_error_5 rfl ?_
    refine zo_get (i := 0) o hB dX7_error_6 zf_X7_42 rfl (by decide) (rfl) ?_
    refine zo_leni (i := 73) o hB dX7_error_9 rfl ?_
    refine zo_rw (y := nI 7) rfl ?_
    refine z_icmpge (tgt := 23) o dX7_error_10 (by decide) (fun c2 => ?_) (fun c2 => ?_)
    · exact absurd (nI_lt (a := k) (b := 7) (by omega) (by omega)) c2
    · refine z_aload_n (j := 0) o dX7_error_13 rfl ?_
      refine zo_get (i := 0) o hB dX7_error_14 zf_X7_42 rfl (by decide) (rfl) ?_
      refine z_iload_n (j := 1) o dX7_error_17 rfl ?_
      refine z_dup2 o dX7_error_18 rfl rfl ?_
      refine zo_iald (i := 73) (j := k) o hB dX7_error_19 rfl (show k < 7 by omega) (by decide) ?_
      refine z_iconst (v := 1) o dX7_error_20 (by decide) ?_
      refine z_iadd o dX7_error_21 ?_
      refine zo_iast (i := 73) (j := k) o hB dX7_error_22 rfl (show k < 7 by omega) (by decide) ?_
      refine z_ldcw (v := (-1000000000)) o dX7_error_23 zk_X7_293 ?_
      refine z_iload_n (j := 1) o dX7_error_26 rfl ?_
      refine z_isub o dX7_error_27 ?_
      exact kret _ _ _ _ dX7_error_28 ⟨rfl, rfl⟩

set_option maxHeartbeats 4000000 in
set_option maxRecDepth 100000 in
theorem c_X7_isFence {B : zB} (hB : znn B = 95) (M : zM) (N : zN) (A : zM) (f : Int32) (hR : zRl M N A) (hok : zOkR (A 83)) : zCi B (zg B M N) yX7_isFence cX7_isFence 2 (some .boolean) 0 [zref B 0, .int f] (fun r g' => g' = zg B M N ∧ r = zin f 0 (A 83 2 - 1)) := by
  refine zCi_of (by decide +kernel) (Nat.le_of_ble_eq_true rfl) .boolean rfl (fun r _ hp => zin_z r (by rw [hp.2]; exact zin_01 _ _ _)) ?_
  intro X o kret
  show zW X B (zg B M N) 0 [(0, zref B 0), (1, .int f)] []
  obtain ⟨hnf, hnf4⟩ := ok_nf2 hok
  obtain ⟨hnc, hnc6⟩ := ok_nc2 hok
  refine z_iload_n (j := 1) o dX7_isFence_0 rfl ?_
  refine z_iflt (tgt := 19) o dX7_isFence_1 (by decide) (fun c1 => ?_) (fun c1 => ?_)
  · refine z_iconst (v := 0) o dX7_isFence_19 (by decide) ?_
    exact kret _ _ _ _ dX7_isFence_20 ⟨rfl, by rw [hnf, ← cg_lt (by omega), if_pos c1]⟩
  · refine z_iload_n (j := 1) o dX7_isFence_4 rfl ?_
    refine z_aload_n (j := 0) o dX7_isFence_5 rfl ?_
    refine zo_get (i := 0) o hB dX7_isFence_6 zf_X7_10 rfl (by decide) (rfl) ?_
    refine zo_get (i := 1) o hB dX7_isFence_9 zf_X7_58 rfl (by decide) (rfl) ?_
    refine zo_rw (y := nI (sp_nf (A 83))) (hR.1.1.1.trans hnf) ?_
    refine z_icmpge (tgt := 19) o dX7_isFence_12 (by decide) (fun c2 => ?_) (fun c2 => ?_)
    · refine z_iconst (v := 0) o dX7_isFence_19 (by decide) ?_
      exact kret _ _ _ _ dX7_isFence_20 ⟨rfl, by rw [hnf, ← cg_lt (by omega), if_neg c1, if_neg c2]⟩
    · refine z_iconst (v := 1) o dX7_isFence_15 (by decide) ?_
      refine z_goto (tgt := 20) o dX7_isFence_16 (by decide) ?_
      exact kret _ _ _ _ dX7_isFence_20 ⟨rfl, by rw [hnf, ← cg_lt (by omega), if_neg c1, if_pos c2]⟩

set_option maxHeartbeats 4000000 in
set_option maxRecDepth 100000 in
theorem c_X7_isCow {B : zB} (hB : znn B = 95) (M : zM) (N : zN) (A : zM) (f : Int32) (hR : zRl M N A) (hok : zOkR (A 83)) : zCi B (zg B M N) yX7_isCow cX7_isCow 2 (some .boolean) 0 [zref B 0, .int f] (fun r g' => g' = zg B M N ∧ r = zin f 0 (A 83 3 - 1)) := by
  refine zCi_of (by decide +kernel) (Nat.le_of_ble_eq_true rfl) .boolean rfl (fun r _ hp => zin_z r (by rw [hp.2]; exact zin_01 _ _ _)) ?_
  intro X o kret
  show zW X B (zg B M N) 0 [(0, zref B 0), (1, .int f)] []
  obtain ⟨hnf, hnf4⟩ := ok_nf2 hok
  obtain ⟨hnc, hnc6⟩ := ok_nc2 hok
  refine z_iload_n (j := 1) o dX7_isCow_0 rfl ?_
  refine z_iflt (tgt := 19) o dX7_isCow_1 (by decide) (fun c1 => ?_) (fun c1 => ?_)
  · refine z_iconst (v := 0) o dX7_isCow_19 (by decide) ?_
    exact kret _ _ _ _ dX7_isCow_20 ⟨rfl, by rw [hnc, ← cg_lt (by omega), if_pos c1]⟩
  · refine z_iload_n (j := 1) o dX7_isCow_4 rfl ?_
    refine z_aload_n (j := 0) o dX7_isCow_5 rfl ?_
    refine zo_get (i := 0) o hB dX7_isCow_6 zf_X7_10 rfl (by decide) (rfl) ?_
    refine zo_get (i := 1) o hB dX7_isCow_9 zf_X7_143 rfl (by decide) (rfl) ?_
    refine zo_rw (y := nI (sp_nc (A 83))) (hR.1.1.2.1.trans hnc) ?_
    refine z_icmpge (tgt := 19) o dX7_isCow_12 (by decide) (fun c2 => ?_) (fun c2 => ?_)
    · refine z_iconst (v := 0) o dX7_isCow_19 (by decide) ?_
      exact kret _ _ _ _ dX7_isCow_20 ⟨rfl, by rw [hnc, ← cg_lt (by omega), if_neg c1, if_neg c2]⟩
    · refine z_iconst (v := 1) o dX7_isCow_15 (by decide) ?_
      refine z_goto (tgt := 20) o dX7_isCow_16 (by decide) ?_
      exact kret _ _ _ _ dX7_isCow_20 ⟨rfl, by rw [hnc, ← cg_lt (by omega), if_neg c1, if_pos c2]⟩

theorem cg_ltn {f b : Int32} {n : Nat} (hn : n < 2 ^ 31) (hb : nI n - 1 = b) : (if f < 0 then 0 else if f < nI n then 1 else 0) = zin f 0 b := by rw [← hb]; exact cg_lt hn
set_option maxHeartbeats 4000000 in
set_option maxRecDepth 100000 in
theorem c_X7_isWay {B : zB} (hB : znn B = 95) (M : zM) (N : zN) (f : Int32) : zCi B (zg B M N) yX7_isWay cX7_isWay 1 (some .boolean) 0 [.int f] (fun r g' => g' = zg B M N ∧ r = zin f 0 3) := by
  refine zCi_of (by decide +kernel) (Nat.le_of_ble_eq_true rfl) .boolean rfl (fun r _ hp => zin_z r (by rw [hp.2]; exact zin_01 _ _ _)) ?_
  intro X o kret
  show zW X B (zg B M N) 0 [(0, .int f)] []
  refine z_iload_n (j := 0) o dX7_isWay_0 rfl ?_
  refine z_iflt (tgt := 13) o dX7_isWay_1 (by decide) (fun c1 => ?_) (fun c1 => ?_)
  · refine z_iconst (v := 0) o dX7_isWay_13 (by decide) ?_
    exact kret _ _ _ _ dX7_isWay_14 ⟨rfl, by rw [← cg_ltn (n := 4) (by decide) (by decide)]; exact (show _ = (if f < 0 then 0 else if f < 4 then 1 else 0) by rw [if_pos c1])⟩
  · refine z_iload_n (j := 0) o dX7_isWay_4 rfl ?_
    refine z_iconst (v := 4) o dX7_isWay_5 (by decide) ?_
    refine z_icmpge (tgt := 13) o dX7_isWay_6 (by decide) (fun c2 => ?_) (fun c2 => ?_)
    · refine z_iconst (v := 0) o dX7_isWay_13 (by decide) ?_
      exact kret _ _ _ _ dX7_isWay_14 ⟨rfl, by rw [← cg_ltn (n := 4) (by decide) (by decide)]; exact (show _ = (if f < 0 then 0 else if f < 4 then 1 else 0) by rw [if_neg c1, if_neg c2])⟩
    · refine z_iconst (v := 1) o dX7_isWay_9 (by decide) ?_
      refine z_goto (tgt := 14) o dX7_isWay_10 (by decide) ?_
      exact kret _ _ _ _ dX7_isWay_14 ⟨rfl, by rw [← cg_ltn (n := 4) (by decide) (by decide)]; exact (show _ = (if f < 0 then 0 else if f < 4 then 1 else 0) by rw [if_neg c1, if_pos c2])⟩

set_option maxHeartbeats 4000000 in
set_option maxRecDepth 100000 in
theorem c_X7_isSheet {B : zB} (hB : znn B = 95) (M : zM) (N : zN) (f : Int32) : zCi B (zg B M N) yX7_isSheet cX7_isSheet 1 (some .boolean) 0 [.int f] (fun r g' => g' = zg B M N ∧ r = zin f 0 3) := by
  refine zCi_of (by decide +kernel) (Nat.le_of_ble_eq_true rfl) .boolean rfl (fun r _ hp => zin_z r (by rw [hp.2]; exact zin_01 _ _ _)) ?_
  intro X o kret
  show zW X B (zg B M N) 0 [(0, .int f)] []
  refine z_iload_n (j := 0) o dX7_isSheet_0 rfl ?_
  refine z_iflt (tgt := 13) o dX7_isSheet_1 (by decide) (fun c1 => ?_) (fun c1 => ?_)
  · refine z_iconst (v := 0) o dX7_isSheet_13 (by decide) ?_
    exact kret _ _ _ _ dX7_isSheet_14 ⟨rfl, by rw [← cg_ltn (n := 4) (by decide) (by decide)]; exact (show _ = (if f < 0 then 0 else if f < 4 then 1 else 0) by rw [if_pos c1])⟩
  · refine z_iload_n (j := 0) o dX7_isSheet_4 rfl ?_
    refine z_iconst (v := 4) o dX7_isSheet_5 (by decide) ?_
    refine z_icmpge (tgt := 13) o dX7_isSheet_6 (by decide) (fun c2 => ?_) (fun c2 => ?_)
    · refine z_iconst (v := 0) o dX7_isSheet_13 (by decide) ?_
      exact kret _ _ _ _ dX7_isSheet_14 ⟨rfl, by rw [← cg_ltn (n := 4) (by decide) (by decide)]; exact (show _ = (if f < 0 then 0 else if f < 4 then 1 else 0) by rw [if_neg c1, if_neg c2])⟩
    · refine z_iconst (v := 1) o dX7_isSheet_9 (by decide) ?_
      refine z_goto (tgt := 14) o dX7_isSheet_10 (by decide) ?_
      exact kret _ _ _ _ dX7_isSheet_14 ⟨rfl, by rw [← cg_ltn (n := 4) (by decide) (by decide)]; exact (show _ = (if f < 0 then 0 else if f < 4 then 1 else 0) by rw [if_neg c1, if_pos c2])⟩

set_option maxHeartbeats 4000000 in
set_option maxRecDepth 100000 in
theorem c_X7_isKm {B : zB} (hB : znn B = 95) (M : zM) (N : zN) (f : Int32) : zCi B (zg B M N) yX7_isKm cX7_isKm 1 (some .boolean) 0 [.int f] (fun r g' => g' = zg B M N ∧ r = zin f 0 69) := by
  refine zCi_of (by decide +kernel) (Nat.le_of_ble_eq_true rfl) .boolean rfl (fun r _ hp => zin_z r (by rw [hp.2]; exact zin_01 _ _ _)) ?_
  intro X o kret
  show zW X B (zg B M N) 0 [(0, .int f)] []
  refine z_iload_n (j := 0) o dX7_isKm_0 rfl ?_
  refine z_iflt (tgt := 14) o dX7_isKm_1 (by decide) (fun c1 => ?_) (fun c1 => ?_)
  · refine z_iconst (v := 0) o dX7_isKm_14 (by decide) ?_
    exact kret _ _ _ _ dX7_isKm_15 ⟨rfl, by unfold zin; simp [*]⟩
  · refine z_iload_n (j := 0) o dX7_isKm_4 rfl ?_
    refine z_bipush (v := 69) o dX7_isKm_5 (by decide) ?_
    refine z_icmpgt (tgt := 14) o dX7_isKm_7 (by decide) (fun c2 => ?_) (fun c2 => ?_)
    · refine z_iconst (v := 0) o dX7_isKm_14 (by decide) ?_
      exact kret _ _ _ _ dX7_isKm_15 ⟨rfl, by unfold zin; simp [*]⟩
    · refine z_iconst (v := 1) o dX7_isKm_10 (by decide) ?_
      refine z_goto (tgt := 15) o dX7_isKm_11 (by decide) ?_
      exact kret _ _ _ _ dX7_isKm_15 ⟨rfl, by unfold zin; simp [*]⟩

theorem use_eq {f : Int32} (h0 : ¬ f = 0) (h1 : ¬ f = 1) : 0 = zin f 0 1 := by
  cases Classical.em (zin f 0 1 = 0) with
  | inl h => exact h.symm
  | inr h =>
    obtain ⟨k, hk, rfl⟩ := zin_lit (n := 1) rfl (by decide) h
    rcases (show k = 0 ∨ k = 1 by omega) with rfl | rfl
    · exact absurd rfl h0
    · exact absurd rfl h1
set_option maxHeartbeats 4000000 in
set_option maxRecDepth 100000 in
theorem c_X7_isUse {B : zB} (hB : znn B = 95) (M : zM) (N : zN) (f : Int32) : zCi B (zg B M N) yX7_isUse cX7_isUse 1 (some .boolean) 0 [.int f] (fun r g' => g' = zg B M N ∧ r = zin f 0 1) := by
  refine zCi_of (by decide +kernel) (Nat.le_of_ble_eq_true rfl) .boolean rfl (fun r _ hp => zin_z r (by rw [hp.2]; exact zin_01 _ _ _)) ?_
  intro X o kret
  show zW X B (zg B M N) 0 [(0, .int f)] []
  refine z_iload_n (j := 0) o dX7_isUse_0 rfl ?_
  refine z_ifeq (tgt := 9) o dX7_isUse_1 (by decide) (fun c1 => ?_) (fun c1 => ?_)
  · refine z_iconst (v := 1) o dX7_isUse_9 (by decide) ?_
    refine z_goto (tgt := 14) o dX7_isUse_10 (by decide) ?_
    exact kret _ _ _ _ dX7_isUse_14 ⟨rfl, by rw [show f = 0 from c1]; decide⟩
  · refine z_iload_n (j := 0) o dX7_isUse_4 rfl ?_
    refine z_iconst (v := 1) o dX7_isUse_5 (by decide) ?_
    refine z_icmpne (tgt := 13) o dX7_isUse_6 (by decide) (fun c2 => ?_) (fun c2 => ?_)
    · refine z_iconst (v := 0) o dX7_isUse_13 (by decide) ?_
      exact kret _ _ _ _ dX7_isUse_14 ⟨rfl, use_eq c1 c2⟩
    · refine z_iconst (v := 1) o dX7_isUse_9 (by decide) ?_
      refine z_goto (tgt := 14) o dX7_isUse_10 (by decide) ?_
      exact kret _ _ _ _ dX7_isUse_14 ⟨rfl, by rw [show f = 1 from c2]; decide⟩

theorem isPost_01 (ρ : Nat → Int32) (f p : Int32) : sp_isPost ρ f p = 0 ∨ sp_isPost ρ f p = 1 := by
  unfold sp_isPost; (repeat' split) <;> first | exact Or.inl rfl | exact Or.inr rfl
set_option maxHeartbeats 4000000 in
set_option maxRecDepth 100000 in
theorem c_X7_isPost {B : zB} (hB : znn B = 95) (M : zM) (N : zN) (A : zM) (f p : Int32) (hR : zRl M N A) (hok : zOkAll (A 83)) : zCi B (zg B M N) yX7_isPost cX7_isPost 3 (some .boolean) 1 [zref B 0, .int f, .int p] (fun r g' => g' = zg B M N ∧ r = sp_isPost (A 83) f p) := by
  refine zCi_of (by decide +kernel) (Nat.le_of_ble_eq_true rfl) .boolean rfl (fun r _ hp => zin_z r (by rw [hp.2]; exact isPost_01 _ _ _)) ?_
  intro X o kret
  show zW X B (zg B M N) 0 [(0, zref B 0), (1, .int f), (2, .int p)] []
  obtain ⟨hnf, hnf4⟩ := ok_nf2 hok.1
  have hF : ∀ i, i < 4 → zFn (9 + 2 * i) M (A 83) i := fun i hi => hR.1.2.1 i hi
  refine z_aload_n (j := 0) o dX7_isPost_0 rfl ?_
  refine z_iload_n (j := 1) o dX7_isPost_1 rfl ?_
  refine z_callVi (As := [.int f]) (n := 1) (st := []) o dX7_isPost_2 (c_X7_isFence hB M N A f hR hok.1) zc_X7_72 (by decide) (i := 0) (by rw [hB]; exact zsh_lt rfl (by decide)) (zg_o rfl (by decide)) rfl rfl rfl (Nat.le_of_ble_eq_true rfl) (fun r1 g2 p3 => ?_)
  obtain ⟨rfl, rfl⟩ := p3
  refine z_ifeq (tgt := 32) o dX7_isPost_5 (by decide) (fun c4 => ?_) (fun c4 => ?_)
  · refine z_iconst (v := 0) o dX7_isPost_32 (by decide) ?_
    exact kret _ _ _ _ dX7_isPost_33 ⟨rfl, by unfold sp_isPost; rw [if_pos c4]⟩
  · have hzf := c4
    rw [hnf] at hzf
    obtain ⟨fa, hfa, efa⟩ := zin_nat (by omega) hzf
    subst efa
    obtain ⟨hnpfa, hnp8⟩ := ok_np2 hok.1 (i := fa) (by omega)
    refine z_iload_n (j := 2) o dX7_isPost_8 rfl ?_
    refine z_iflt (tgt := 32) o dX7_isPost_9 (by decide) (fun c5 => ?_) (fun c5 => ?_)
    · refine z_iconst (v := 0) o dX7_isPost_32 (by decide) ?_
      have hp9 := cg_lt (f := p) (n := sp_np (A 83) fa) (by omega)
      rw [if_pos c5] at hp9
      rw [← hnpfa] at hp9
      exact kret _ _ _ _ dX7_isPost_33 ⟨rfl, by unfold sp_isPost; rw [if_neg c4, zn_nI (by omega), ← hp9]; decide⟩
    · refine z_iload_n (j := 2) o dX7_isPost_12 rfl ?_
      refine z_aload_n (j := 0) o dX7_isPost_13 rfl ?_
      refine zo_get (i := 0) o hB dX7_isPost_14 zf_X7_10 rfl (by decide) (rfl) ?_
      refine zo_get (i := 1) o hB dX7_isPost_17 zf_X7_62 rfl (by decide) (rfl) ?_
      refine z_iload_n (j := 1) o dX7_isPost_20 rfl ?_
      refine zo_aldF (i := 2) (j := fa) o hB dX7_isPost_21 rfl (show fa < 4 by omega) (by decide) ?_
      refine zo_get (i := 9 + 2 * fa) o hB dX7_isPost_22 zf_X7_80 ((zh_R (r := 1) rfl).2.2.2.2.2.2.2.1 fa (by omega)) (by decide) (rfl) ?_
      refine zo_rw (y := nI (sp_np (A 83) fa)) ((hF fa (by omega)).1.trans hnpfa) ?_
      refine z_icmpge (tgt := 32) o dX7_isPost_25 (by decide) (fun c6 => ?_) (fun c6 => ?_)
      · refine z_iconst (v := 0) o dX7_isPost_32 (by decide) ?_
        have hp9 := cg_lt (f := p) (n := sp_np (A 83) fa) (by omega)
        rw [if_neg c5, if_neg c6] at hp9
        rw [← hnpfa] at hp9
        exact kret _ _ _ _ dX7_isPost_33 ⟨rfl, by unfold sp_isPost; rw [if_neg c4, zn_nI (by omega), ← hp9]; decide⟩
      · refine z_iconst (v := 1) o dX7_isPost_28 (by decide) ?_
        refine z_goto (tgt := 33) o dX7_isPost_29 (by decide) ?_
        have hp9 := cg_lt (f := p) (n := sp_np (A 83) fa) (by omega)
        rw [if_neg c5, if_pos c6] at hp9
        rw [← hnpfa] at hp9
        exact kret _ _ _ _ dX7_isPost_33 ⟨rfl, by unfold sp_isPost; rw [if_neg c4, zn_nI (by omega), ← hp9]; decide⟩

