/-! the reference: voices; sheets told -/
set_option maxHeartbeats 4000000 in
set_option maxRecDepth 100000 in
theorem c_X8_begins {B : zB} (hB : znn B = 95) (M : zM) (N : zN) (k : Nat) (b : Int32) (hk : k < 30) (h18 : M 82 18 = nI k) : zCv B (zg B M N) yX8_begins cX8_begins 2 none 0 [zref B 82, .int b] (fun g' => g' = zg B (zVo M k [b]) N) := by
  refine zCv_of (by decide +kernel) (Nat.le_of_ble_eq_true rfl) ?_
  intro X o kret
  show zW X B (zg B M N) 0 [(0, zref B 82), (1, .int b)] []
  refine z_aload_n (j := 0) o dX8_begins_0 rfl ?_
  refine zo_get (i := 82) o hB dX8_begins_1 zf_X8_233 rfl (by decide) rfl ?_
  refine zo_rw (y := nI k) (h18) ?_
  refine z_bipush (v := 30) o dX8_begins_4 (by decide) ?_
  refine z_icmpge (tgt := 29) o dX8_begins_6 (by decide) (fun c1 => ?_) (fun c1 => ?_)
  · exact absurd (nI_lt (a := k) (b := 30) (by omega) (by omega)) c1
  · refine z_aload_n (j := 0) o dX8_begins_9 rfl ?_
    refine zo_get (i := 82) o hB dX8_begins_10 zf_X8_43 rfl (by decide) rfl ?_
    refine z_aload_n (j := 0) o dX8_begins_13 rfl ?_
    refine zo_get (i := 82) o hB dX8_begins_14 zf_X8_233 rfl (by decide) rfl ?_
    refine zo_rw (y := nI k) (h18) ?_
    refine z_iload_n (j := 1) o dX8_begins_17 rfl ?_
    refine zo_iast (i := 94) (j := k) o hB dX8_begins_18 rfl (show k < 30 by omega) (by decide) ?_
    refine zo_nm (fun M2 hM2 => ?_)
    have hqM2 : M2 82 18 = nI k := by rw [hM2, zu_ne (by decide)]; exact h18
    refine z_aload_n (j := 0) o dX8_begins_19 rfl ?_
    refine z_dup o dX8_begins_20 rfl ?_
    refine zo_get (i := 82) o hB dX8_begins_21 zf_X8_233 rfl (by decide) rfl ?_
    refine zo_rw (y := nI k) (hqM2) ?_
    refine z_iconst (v := 1) o dX8_begins_24 (by decide) ?_
    refine z_iadd o dX8_begins_25 ?_
    refine zo_rw (y := nI (k + 1)) (zn_add (rfl) (rfl)) ?_
    refine zo_put (i := 82) o hB dX8_begins_26 zp_X8_233 rfl (by decide) (by decide) (Nat.le_of_ble_eq_true rfl) ?_
    refine zo_nm (fun M3 hM3 => ?_)
    exact kret _ _ _ dX8_begins_29 (by subst_vars; rfl)

set_option maxHeartbeats 4000000 in
set_option maxRecDepth 100000 in
theorem c_X8_plainSings {B : zB} (hB : znn B = 95) (M : zM) (N : zN) (ρ : Nat → Int32) (hρ : M 83 = ρ) (k t : Nat) (x : Int32) (ht : t < 4) (hk : k + 1 ≤ 30) (h18 : M 82 18 = nI k) : zCi B (zg B M N) yX8_plainSings cX8_plainSings 3 (some .int) 1 [zref B 82, .int (nI t), .int x] (fun r g' => g' = zg B (zVo M k (vs_ps t x).2) N ∧ r = (vs_ps t x).1) := by
  subst hρ
  refine zCi_of (by decide +kernel) (Nat.le_of_ble_eq_true rfl) .int rfl (fun _ _ _ => rfl) ?_
  intro X o kret
  show zW X B (zg B M N) 0 [(0, zref B 82), (1, .int (nI t)), (2, .int x)] []
  refine z_aload_n (j := 0) o dX8_plainSings_0 rfl ?_
  refine z_bipush (v := 10) o dX8_plainSings_1 (by decide) ?_
  refine z_callVv (As := [.int 10]) (n := 1) (st := []) o dX8_plainSings_3 (c_X8_begins hB M N (k) 10 (by omega) h18) zc_X8_236 (by decide) (i := 82) (by rw [hB]; exact zsh_lt rfl (by decide)) (zg_o rfl (by decide)) rfl rfl rfl (Nat.le_of_ble_eq_true rfl) (fun g2 p3 => ?_)
  cases p3
  refine z_iload_n (j := 2) o dX8_plainSings_6 rfl ?_
  refine z_iload_n (j := 1) o dX8_plainSings_7 rfl ?_
  refine z_iadd o dX8_plainSings_8 ?_
  exact kret _ _ _ _ dX8_plainSings_9 ⟨rfl, rfl⟩

set_option maxHeartbeats 4000000 in
set_option maxRecDepth 100000 in
theorem c_X8_northernSings {B : zB} (hB : znn B = 95) (M : zM) (N : zN) (ρ : Nat → Int32) (hρ : M 83 = ρ) (k t : Nat) (x : Int32) (ht : t < 4) (hk : k + 2 ≤ 30) (h18 : M 82 18 = nI k) : zCi B (zg B M N) yX8_northernSings cX8_northernSings 3 (some .int) 2 [zref B 82, .int (nI t), .int x] (fun r g' => g' = zg B (zVo M k (vs_ns t x).2) N ∧ r = (vs_ns t x).1) := by
  subst hρ
  refine zCi_of (by decide +kernel) (Nat.le_of_ble_eq_true rfl) .int rfl (fun _ _ _ => rfl) ?_
  intro X o kret
  show zW X B (zg B M N) 0 [(0, zref B 82), (1, .int (nI t)), (2, .int x)] []
  refine z_aload_n (j := 0) o dX8_northernSings_0 rfl ?_
  refine z_bipush (v := 20) o dX8_northernSings_1 (by decide) ?_
  refine z_callVv (As := [.int 20]) (n := 1) (st := []) o dX8_northernSings_3 (c_X8_begins hB M N (k) 20 (by omega) h18) zc_X8_236 (by decide) (i := 82) (by rw [hB]; exact zsh_lt rfl (by decide)) (zg_o rfl (by decide)) rfl rfl rfl (Nat.le_of_ble_eq_true rfl) (fun g2 p3 => ?_)
  cases p3
  refine z_aload_n (j := 0) o dX8_northernSings_6 rfl ?_
  refine z_iload_n (j := 1) o dX8_northernSings_7 rfl ?_
  refine z_iload_n (j := 2) o dX8_northernSings_8 rfl ?_
  refine z_callVi (As := [.int (nI t), .int x]) (n := 2) (st := []) o dX8_northernSings_9 (c_X8_plainSings hB (zVo M k ([20])) N (M 83) (by rw [zVo_ne (by decide) (by decide)]) (k + 1) t x ht (by omega) zVo_18) zc_X8_239 (by decide) (i := 82) (by rw [hB]; exact zsh_lt rfl (by decide)) (zg_o rfl (by decide)) rfl rfl rfl (Nat.le_of_ble_eq_true rfl) (fun r4 g5 p6 => ?_)
  obtain ⟨rfl, rfl⟩ := p6
  rw [zVo_app (M := M) (l1 := [20]) (l2 := (vs_ps t x).2) (by first | rfl | simp)]
  refine z_iconst (v := 4) o dX8_northernSings_12 (by decide) ?_
  refine z_isub o dX8_northernSings_13 ?_
  exact kret _ _ _ _ dX8_northernSings_14 ⟨rfl, rfl⟩

set_option maxHeartbeats 4000000 in
set_option maxRecDepth 100000 in
theorem c_X8_sings {B : zB} (hB : znn B = 95) (M : zM) (N : zN) (ρ : Nat → Int32) (hρ : M 83 = ρ) (k t : Nat) (x : Int32) (ht : t < 4) (hk : k + 3 ≤ 30) (h18 : M 82 18 = nI k) : zCi B (zg B M N) yX8_sings cX8_sings 3 (some .int) 3 [zref B 82, .int (nI t), .int x] (fun r g' => g' = zg B (zVo M k (vs_s (ρ (6 + 13 * t + 0)) t x).2) N ∧ r = (vs_s (ρ (6 + 13 * t + 0)) t x).1) := by
  subst hρ
  refine zCi_of (by decide +kernel) (Nat.le_of_ble_eq_true rfl) .int rfl (fun _ _ _ => rfl) ?_
  intro X o kret
  show zW X B (zg B M N) 0 [(0, zref B 82), (1, .int (nI t)), (2, .int x)] []
  refine z_aload_n (j := 0) o dX8_sings_0 rfl ?_
  refine z_iload_n (j := 1) o dX8_sings_1 rfl ?_
  refine z_iconst (v := 0) o dX8_sings_2 (by decide) ?_
  refine z_callVi (As := [.int (nI t), .int 0]) (n := 2) (st := []) o dX8_sings_3 (c_X8_of hB M N t 0 (by omega)) zc_X8_55 (by decide) (i := 82) (by rw [hB]; exact zsh_lt rfl (by decide)) (zg_o rfl (by decide)) rfl rfl rfl (Nat.le_of_ble_eq_true rfl) (fun r1 g2 p3 => ?_)
  obtain ⟨rfl, rfl⟩ := p3
  refine z_lcase 1 (off := 34) (tgt := 40) o dX8_sings_6 (by decide) (by decide) (by decide) (fun c4 => ?_) (fun c4 => ?_)
  · refine z_aload_n (j := 0) o dX8_sings_40 rfl ?_
    refine z_iload_n (j := 1) o dX8_sings_41 rfl ?_
    refine z_iload_n (j := 2) o dX8_sings_42 rfl ?_
    refine z_callVi (As := [.int (nI t), .int x]) (n := 2) (st := []) o dX8_sings_43 (c_X8_northernSings hB M N (M 83) rfl (k) t x ht (by omega) h18) zc_X8_242 (by decide) (i := 82) (by rw [hB]; exact zsh_lt rfl (by decide)) (zg_o rfl (by decide)) rfl rfl rfl (Nat.le_of_ble_eq_true rfl) (fun r5 g6 p7 => ?_)
    obtain ⟨rfl, rfl⟩ := p7
    exact kret _ _ _ _ dX8_sings_46 ⟨by unfold vs_s; rw [if_pos c4] <;> rfl, by unfold vs_s; rw [if_pos c4] <;> rfl⟩
  refine z_lcase 4 (off := 41) (tgt := 47) o dX8_sings_6 (by decide) (by decide) (by decide) (fun c8 => ?_) (fun c8 => ?_)
  · refine z_aload_n (j := 0) o dX8_sings_47 rfl ?_
    refine z_bipush (v := 50) o dX8_sings_48 (by decide) ?_
    refine z_callVv (As := [.int 50]) (n := 1) (st := []) o dX8_sings_50 (c_X8_begins hB M N (k) 50 (by omega) h18) zc_X8_236 (by decide) (i := 82) (by rw [hB]; exact zsh_lt rfl (by decide)) (zg_o rfl (by decide)) rfl rfl rfl (Nat.le_of_ble_eq_true rfl) (fun g10 p11 => ?_)
    cases p11
    refine z_aload_n (j := 0) o dX8_sings_53 rfl ?_
    refine z_iload_n (j := 1) o dX8_sings_54 rfl ?_
    refine z_iload_n (j := 2) o dX8_sings_55 rfl ?_
    refine z_callVi (As := [.int (nI t), .int x]) (n := 2) (st := []) o dX8_sings_56 (c_X8_northernSings hB (zVo M k ([50])) N (M 83) (by rw [zVo_ne (by decide) (by decide)]) (k + 1) t x ht (by omega) zVo_18) zc_X8_242 (by decide) (i := 82) (by rw [hB]; exact zsh_lt rfl (by decide)) (zg_o rfl (by decide)) rfl rfl rfl (Nat.le_of_ble_eq_true rfl) (fun r12 g13 p14 => ?_)
    obtain ⟨rfl, rfl⟩ := p14
    rw [zVo_app (M := M) (l1 := [50]) (l2 := (vs_ns t x).2) (by first | rfl | simp)]
    refine z_iconst (v := 3) o dX8_sings_59 (by decide) ?_
    refine z_imul o dX8_sings_60 ?_
    exact kret _ _ _ _ dX8_sings_61 ⟨by unfold vs_s; rw [if_neg c4, if_pos c8] <;> rfl, by unfold vs_s; rw [if_neg c4, if_pos c8] <;> rfl⟩
  refine z_lcase 6 (off := 56) (tgt := 62) o dX8_sings_6 (by decide) (by decide) (by decide) (fun c15 => ?_) (fun c15 => ?_)
  · refine z_aload_n (j := 0) o dX8_sings_62 rfl ?_
    refine z_bipush (v := 70) o dX8_sings_63 (by decide) ?_
    refine z_callVv (As := [.int 70]) (n := 1) (st := []) o dX8_sings_65 (c_X8_begins hB M N (k) 70 (by omega) h18) zc_X8_236 (by decide) (i := 82) (by rw [hB]; exact zsh_lt rfl (by decide)) (zg_o rfl (by decide)) rfl rfl rfl (Nat.le_of_ble_eq_true rfl) (fun g17 p18 => ?_)
    cases p18
    refine z_bipush (v := 9) o dX8_sings_68 (by decide) ?_
    exact kret _ _ _ _ dX8_sings_70 ⟨by unfold vs_s; rw [if_neg c4, if_neg c8, if_pos c15] <;> rfl, by unfold vs_s; rw [if_neg c4, if_neg c8, if_pos c15] <;> rfl⟩
  refine z_ldef (tgt := 71) o dX8_sings_6 (by decide) (by show Op.lookupswitch.offset [(1, 34), (4, 41), (6, 56)] _ _ = _; rw [lv_osw (a := 1) c4 rfl, lv_osw (a := 4) c8 rfl, lv_osw (a := 6) c15 rfl]; rfl) (by decide) ?_
  refine z_aload_n (j := 0) o dX8_sings_71 rfl ?_
  refine z_iload_n (j := 1) o dX8_sings_72 rfl ?_
  refine z_iload_n (j := 2) o dX8_sings_73 rfl ?_
  refine z_callVi (As := [.int (nI t), .int x]) (n := 2) (st := []) o dX8_sings_74 (c_X8_plainSings hB M N (M 83) rfl (k) t x ht (by omega) h18) zc_X8_239 (by decide) (i := 82) (by rw [hB]; exact zsh_lt rfl (by decide)) (zg_o rfl (by decide)) rfl rfl rfl (Nat.le_of_ble_eq_true rfl) (fun r19 g20 p21 => ?_)
  obtain ⟨rfl, rfl⟩ := p21
  exact kret _ _ _ _ dX8_sings_77 ⟨by unfold vs_s; rw [if_neg c4, if_neg c8, if_neg c15] <;> rfl, by unfold vs_s; rw [if_neg c4, if_neg c8, if_neg c15] <;> rfl⟩

set_option maxHeartbeats 4000000 in
set_option maxRecDepth 100000 in
theorem c_X8_plainLeans {B : zB} (hB : znn B = 95) (M : zM) (N : zN) (ρ : Nat → Int32) (hρ : M 83 = ρ) (k t : Nat) (x : Int32) (ht : t < 4) (hk : k + 4 ≤ 30) (h18 : M 82 18 = nI k) : zCi B (zg B M N) yX8_plainLeans cX8_plainLeans 3 (some .int) 4 [zref B 82, .int (nI t), .int x] (fun r g' => g' = zg B (zVo M k (vs_pl (ρ (6 + 13 * t + 0)) t x).2) N ∧ r = (vs_pl (ρ (6 + 13 * t + 0)) t x).1) := by
  subst hρ
  refine zCi_of (by decide +kernel) (Nat.le_of_ble_eq_true rfl) .int rfl (fun _ _ _ => rfl) ?_
  intro X o kret
  show zW X B (zg B M N) 0 [(0, zref B 82), (1, .int (nI t)), (2, .int x)] []
  refine z_aload_n (j := 0) o dX8_plainLeans_0 rfl ?_
  refine z_bipush (v := 11) o dX8_plainLeans_1 (by decide) ?_
  refine z_callVv (As := [.int 11]) (n := 1) (st := []) o dX8_plainLeans_3 (c_X8_begins hB M N (k) 11 (by omega) h18) zc_X8_236 (by decide) (i := 82) (by rw [hB]; exact zsh_lt rfl (by decide)) (zg_o rfl (by decide)) rfl rfl rfl (Nat.le_of_ble_eq_true rfl) (fun g2 p3 => ?_)
  cases p3
  refine z_aload_n (j := 0) o dX8_plainLeans_6 rfl ?_
  refine z_iload_n (j := 1) o dX8_plainLeans_7 rfl ?_
  refine z_iload_n (j := 2) o dX8_plainLeans_8 rfl ?_
  refine z_callVi (As := [.int (nI t), .int x]) (n := 2) (st := []) o dX8_plainLeans_9 (c_X8_sings hB (zVo M k ([11])) N (M 83) (by rw [zVo_ne (by decide) (by decide)]) (k + 1) t x ht (by omega) zVo_18) zc_X8_245 (by decide) (i := 82) (by rw [hB]; exact zsh_lt rfl (by decide)) (zg_o rfl (by decide)) rfl rfl rfl (Nat.le_of_ble_eq_true rfl) (fun r4 g5 p6 => ?_)
  obtain ⟨rfl, rfl⟩ := p6
  rw [zVo_app (M := M) (l1 := [11]) (l2 := (vs_s (M 83 (6 + 13 * t + 0)) t x).2) (by first | rfl | simp)]
  refine z_iconst (v := 2) o dX8_plainLeans_12 (by decide) ?_
  refine z_imul o dX8_plainLeans_13 ?_
  exact kret _ _ _ _ dX8_plainLeans_14 ⟨rfl, rfl⟩

set_option maxHeartbeats 4000000 in
set_option maxRecDepth 100000 in
theorem c_X8_laggingLeans {B : zB} (hB : znn B = 95) (M : zM) (N : zN) (ρ : Nat → Int32) (hρ : M 83 = ρ) (k t : Nat) (x : Int32) (ht : t < 4) (hk : k + 5 ≤ 30) (h18 : M 82 18 = nI k) : zCi B (zg B M N) yX8_laggingLeans cX8_laggingLeans 3 (some .int) 5 [zref B 82, .int (nI t), .int x] (fun r g' => g' = zg B (zVo M k (vs_ll (ρ (6 + 13 * t + 0)) t x).2) N ∧ r = (vs_ll (ρ (6 + 13 * t + 0)) t x).1) := by
  subst hρ
  refine zCi_of (by decide +kernel) (Nat.le_of_ble_eq_true rfl) .int rfl (fun _ _ _ => rfl) ?_
  intro X o kret
  show zW X B (zg B M N) 0 [(0, zref B 82), (1, .int (nI t)), (2, .int x)] []
  refine z_aload_n (j := 0) o dX8_laggingLeans_0 rfl ?_
  refine z_bipush (v := 30) o dX8_laggingLeans_1 (by decide) ?_
  refine z_callVv (As := [.int 30]) (n := 1) (st := []) o dX8_laggingLeans_3 (c_X8_begins hB M N (k) 30 (by omega) h18) zc_X8_236 (by decide) (i := 82) (by rw [hB]; exact zsh_lt rfl (by decide)) (zg_o rfl (by decide)) rfl rfl rfl (Nat.le_of_ble_eq_true rfl) (fun g2 p3 => ?_)
  cases p3
  refine z_aload_n (j := 0) o dX8_laggingLeans_6 rfl ?_
  refine z_iload_n (j := 1) o dX8_laggingLeans_7 rfl ?_
  refine z_iload_n (j := 2) o dX8_laggingLeans_8 rfl ?_
  refine z_callVi (As := [.int (nI t), .int x]) (n := 2) (st := []) o dX8_laggingLeans_9 (c_X8_plainLeans hB (zVo M k ([30])) N (M 83) (by rw [zVo_ne (by decide) (by decide)]) (k + 1) t x ht (by omega) zVo_18) zc_X8_248 (by decide) (i := 82) (by rw [hB]; exact zsh_lt rfl (by decide)) (zg_o rfl (by decide)) rfl rfl rfl (Nat.le_of_ble_eq_true rfl) (fun r4 g5 p6 => ?_)
  obtain ⟨rfl, rfl⟩ := p6
  rw [zVo_app (M := M) (l1 := [30]) (l2 := (vs_pl (M 83 (6 + 13 * t + 0)) t x).2) (by first | rfl | simp)]
  refine z_ineg o dX8_laggingLeans_12 ?_
  exact kret _ _ _ _ dX8_laggingLeans_13 ⟨rfl, rfl⟩

set_option maxHeartbeats 4000000 in
set_option maxRecDepth 100000 in
theorem c_X8_leans {B : zB} (hB : znn B = 95) (M : zM) (N : zN) (ρ : Nat → Int32) (hρ : M 83 = ρ) (k t : Nat) (x : Int32) (ht : t < 4) (hk : k + 6 ≤ 30) (h18 : M 82 18 = nI k) : zCi B (zg B M N) yX8_leans cX8_leans 3 (some .int) 6 [zref B 82, .int (nI t), .int x] (fun r g' => g' = zg B (zVo M k (vs_l (ρ (6 + 13 * t + 0)) (ρ (6 + 13 * t + 1)) t x).2) N ∧ r = (vs_l (ρ (6 + 13 * t + 0)) (ρ (6 + 13 * t + 1)) t x).1) := by
  subst hρ
  refine zCi_of (by decide +kernel) (Nat.le_of_ble_eq_true rfl) .int rfl (fun _ _ _ => rfl) ?_
  intro X o kret
  show zW X B (zg B M N) 0 [(0, zref B 82), (1, .int (nI t)), (2, .int x)] []
  refine z_aload_n (j := 0) o dX8_leans_0 rfl ?_
  refine z_iload_n (j := 1) o dX8_leans_1 rfl ?_
  refine z_iconst (v := 0) o dX8_leans_2 (by decide) ?_
  refine z_callVi (As := [.int (nI t), .int 0]) (n := 2) (st := []) o dX8_leans_3 (c_X8_of hB M N t 0 (by omega)) zc_X8_55 (by decide) (i := 82) (by rw [hB]; exact zsh_lt rfl (by decide)) (zg_o rfl (by decide)) rfl rfl rfl (Nat.le_of_ble_eq_true rfl) (fun r1 g2 p3 => ?_)
  obtain ⟨rfl, rfl⟩ := p3
  refine z_tcase 2 (tgt := 40) o dX8_leans_6 (by decide) (by decide) rfl (by decide) (fun c4 => ?_) (fun c4 => ?_)
  · refine z_aload_n (j := 0) o dX8_leans_40 rfl ?_
    refine z_iload_n (j := 1) o dX8_leans_41 rfl ?_
    refine z_iload_n (j := 2) o dX8_leans_42 rfl ?_
    refine z_callVi (As := [.int (nI t), .int x]) (n := 2) (st := []) o dX8_leans_43 (c_X8_laggingLeans hB M N (M 83) rfl (k) t x ht (by omega) h18) zc_X8_251 (by decide) (i := 82) (by rw [hB]; exact zsh_lt rfl (by decide)) (zg_o rfl (by decide)) rfl rfl rfl (Nat.le_of_ble_eq_true rfl) (fun r5 g6 p7 => ?_)
    obtain ⟨rfl, rfl⟩ := p7
    exact kret _ _ _ _ dX8_leans_46 ⟨by unfold vs_l; rw [if_pos c4] <;> rfl, by unfold vs_l; rw [if_pos c4] <;> rfl⟩
  refine z_tcase 3 (tgt := 82) o dX8_leans_6 (by decide) (by decide) rfl (by decide) (fun c8 => ?_) (fun c8 => ?_)
  · refine z_aload_n (j := 0) o dX8_leans_82 rfl ?_
    refine z_iload_n (j := 1) o dX8_leans_83 rfl ?_
    refine z_iload_n (j := 2) o dX8_leans_84 rfl ?_
    refine z_callVi (As := [.int (nI t), .int x]) (n := 2) (st := []) o dX8_leans_85 (c_X8_plainLeans hB M N (M 83) rfl (k) t x ht (by omega) h18) zc_X8_248 (by decide) (i := 82) (by rw [hB]; exact zsh_lt rfl (by decide)) (zg_o rfl (by decide)) rfl rfl rfl (Nat.le_of_ble_eq_true rfl) (fun r9 g10 p11 => ?_)
    obtain ⟨rfl, rfl⟩ := p11
    exact kret _ _ _ _ dX8_leans_88 ⟨by unfold vs_l; rw [if_neg (by rw [c8]; decide), if_neg (by rw [c8]; decide), if_neg (by rw [c8]; decide)] <;> rfl, by unfold vs_l; rw [if_neg (by rw [c8]; decide), if_neg (by rw [c8]; decide), if_neg (by rw [c8]; decide)] <;> rfl⟩
  refine z_tcase 4 (tgt := 82) o dX8_leans_6 (by decide) (by decide) rfl (by decide) (fun c12 => ?_) (fun c12 => ?_)
  · refine z_aload_n (j := 0) o dX8_leans_82 rfl ?_
    refine z_iload_n (j := 1) o dX8_leans_83 rfl ?_
    refine z_iload_n (j := 2) o dX8_leans_84 rfl ?_
    refine z_callVi (As := [.int (nI t), .int x]) (n := 2) (st := []) o dX8_leans_85 (c_X8_plainLeans hB M N (M 83) rfl (k) t x ht (by omega) h18) zc_X8_248 (by decide) (i := 82) (by rw [hB]; exact zsh_lt rfl (by decide)) (zg_o rfl (by decide)) rfl rfl rfl (Nat.le_of_ble_eq_true rfl) (fun r13 g14 p15 => ?_)
    obtain ⟨rfl, rfl⟩ := p15
    exact kret _ _ _ _ dX8_leans_88 ⟨by unfold vs_l; rw [if_neg (by rw [c12]; decide), if_neg (by rw [c12]; decide), if_neg (by rw [c12]; decide)] <;> rfl, by unfold vs_l; rw [if_neg (by rw [c12]; decide), if_neg (by rw [c12]; decide), if_neg (by rw [c12]; decide)] <;> rfl⟩
  refine z_tcase 5 (tgt := 47) o dX8_leans_6 (by decide) (by decide) rfl (by decide) (fun c16 => ?_) (fun c16 => ?_)
  · refine z_aload_n (j := 0) o dX8_leans_47 rfl ?_
    refine z_bipush (v := 60) o dX8_leans_48 (by decide) ?_
    refine z_callVv (As := [.int 60]) (n := 1) (st := []) o dX8_leans_50 (c_X8_begins hB M N (k) 60 (by omega) h18) zc_X8_236 (by decide) (i := 82) (by rw [hB]; exact zsh_lt rfl (by decide)) (zg_o rfl (by decide)) rfl rfl rfl (Nat.le_of_ble_eq_true rfl) (fun g18 p19 => ?_)
    cases p19
    refine z_aload_n (j := 0) o dX8_leans_53 rfl ?_
    refine z_iload_n (j := 1) o dX8_leans_54 rfl ?_
    refine z_iload_n (j := 2) o dX8_leans_55 rfl ?_
    refine z_iconst (v := 1) o dX8_leans_56 (by decide) ?_
    refine z_iadd o dX8_leans_57 ?_
    refine z_callVi (As := [.int (nI t), .int (x + 1)]) (n := 2) (st := []) o dX8_leans_58 (c_X8_laggingLeans hB (zVo M k ([60])) N (M 83) (by rw [zVo_ne (by decide) (by decide)]) (k + 1) t (x + 1) ht (by omega) zVo_18) zc_X8_251 (by decide) (i := 82) (by rw [hB]; exact zsh_lt rfl (by decide)) (zg_o rfl (by decide)) rfl rfl rfl (Nat.le_of_ble_eq_true rfl) (fun r20 g21 p22 => ?_)
    obtain ⟨rfl, rfl⟩ := p22
    rw [zVo_app (M := M) (l1 := [60]) (l2 := (vs_ll (M 83 (6 + 13 * t + 0)) t (x + 1)).2) (by first | rfl | simp)]
    exact kret _ _ _ _ dX8_leans_61 ⟨by unfold vs_l; rw [if_neg c4, if_pos c16] <;> rfl, by unfold vs_l; rw [if_neg c4, if_pos c16] <;> rfl⟩
  refine z_tcase 6 (tgt := 62) o dX8_leans_6 (by decide) (by decide) rfl (by decide) (fun c23 => ?_) (fun c23 => ?_)
  · refine z_aload_n (j := 0) o dX8_leans_62 rfl ?_
    refine z_bipush (v := 71) o dX8_leans_63 (by decide) ?_
    refine z_callVv (As := [.int 71]) (n := 1) (st := []) o dX8_leans_65 (c_X8_begins hB M N (k) 71 (by omega) h18) zc_X8_236 (by decide) (i := 82) (by rw [hB]; exact zsh_lt rfl (by decide)) (zg_o rfl (by decide)) rfl rfl rfl (Nat.le_of_ble_eq_true rfl) (fun g25 p26 => ?_)
    cases p26
    refine z_aload_n (j := 0) o dX8_leans_68 rfl ?_
    refine z_iload_n (j := 1) o dX8_leans_69 rfl ?_
    refine z_iload_n (j := 2) o dX8_leans_70 rfl ?_
    refine z_callVi (As := [.int (nI t), .int x]) (n := 2) (st := []) o dX8_leans_71 (c_X8_plainLeans hB (zVo M k ([71])) N (M 83) (by rw [zVo_ne (by decide) (by decide)]) (k + 1) t x ht (by omega) zVo_18) zc_X8_248 (by decide) (i := 82) (by rw [hB]; exact zsh_lt rfl (by decide)) (zg_o rfl (by decide)) rfl rfl rfl (Nat.le_of_ble_eq_true rfl) (fun r27 g28 p29 => ?_)
    obtain ⟨rfl, rfl⟩ := p29
    rw [zVo_app (M := M) (l1 := [71]) (l2 := (vs_pl (M 83 (6 + 13 * t + 0)) t x).2) (by first | rfl | simp)]
    refine z_aload_n (j := 0) o dX8_leans_74 rfl ?_
    refine z_iload_n (j := 1) o dX8_leans_75 rfl ?_
    refine z_iconst (v := 1) o dX8_leans_76 (by decide) ?_
    refine z_callVi (As := [.int (nI t), .int 1]) (n := 2) (st := [.int ((vs_pl (M 83 (6 + 13 * t + 0)) t x).1)]) o dX8_leans_77 (c_X8_of hB (zVo M k ([71] ++ ((vs_pl (M 83 (6 + 13 * t + 0)) t x).2))) N t 1 (by omega)) zc_X8_55 (by decide) (i := 82) (by rw [hB]; exact zsh_lt rfl (by decide)) (zg_o rfl (by decide)) rfl rfl rfl (Nat.le_of_ble_eq_true rfl) (fun r30 g31 p32 => ?_)
    obtain ⟨rfl, rfl⟩ := p32
    refine zo_rw (y := M 83 (6 + 13 * t + 1)) (by rw [zVo_ne (by decide) (by decide)]) ?_
    refine z_iadd o dX8_leans_80 ?_
    exact kret _ _ _ _ dX8_leans_81 ⟨by unfold vs_l; rw [if_neg c4, if_neg c16, if_pos c23] <;> rfl, by unfold vs_l; rw [if_neg c4, if_neg c16, if_pos c23] <;> rfl⟩
  refine z_tdef (tgt := 82) o dX8_leans_6 (by have := lv_neT (a := 2) c4 rfl; have := lv_neT (a := 3) c8 rfl; have := lv_neT (a := 4) c12 rfl; have := lv_neT (a := 5) c16 rfl; have := lv_neT (a := 6) c23 rfl; omega) (by decide) ?_
  refine z_aload_n (j := 0) o dX8_leans_82 rfl ?_
  refine z_iload_n (j := 1) o dX8_leans_83 rfl ?_
  refine z_iload_n (j := 2) o dX8_leans_84 rfl ?_
  refine z_callVi (As := [.int (nI t), .int x]) (n := 2) (st := []) o dX8_leans_85 (c_X8_plainLeans hB M N (M 83) rfl (k) t x ht (by omega) h18) zc_X8_248 (by decide) (i := 82) (by rw [hB]; exact zsh_lt rfl (by decide)) (zg_o rfl (by decide)) rfl rfl rfl (Nat.le_of_ble_eq_true rfl) (fun r33 g34 p35 => ?_)
  obtain ⟨rfl, rfl⟩ := p35
  exact kret _ _ _ _ dX8_leans_88 ⟨by unfold vs_l; rw [if_neg c4, if_neg c16, if_neg c23] <;> rfl, by unfold vs_l; rw [if_neg c4, if_neg c16, if_neg c23] <;> rfl⟩

set_option maxHeartbeats 4000000 in
set_option maxRecDepth 100000 in
theorem c_X8_plainSprouts {B : zB} (hB : znn B = 95) (M : zM) (N : zN) (ρ : Nat → Int32) (hρ : M 83 = ρ) (k t : Nat) (x : Int32) (ht : t < 4) (hk : k + 7 ≤ 30) (h18 : M 82 18 = nI k) : zCi B (zg B M N) yX8_plainSprouts cX8_plainSprouts 3 (some .int) 7 [zref B 82, .int (nI t), .int x] (fun r g' => g' = zg B (zVo M k (vs_pr (ρ (6 + 13 * t + 0)) (ρ (6 + 13 * t + 1)) t x).2) N ∧ r = (vs_pr (ρ (6 + 13 * t + 0)) (ρ (6 + 13 * t + 1)) t x).1) := by
  subst hρ
  refine zCi_of (by decide +kernel) (Nat.le_of_ble_eq_true rfl) .int rfl (fun _ _ _ => rfl) ?_
  intro X o kret
  show zW X B (zg B M N) 0 [(0, zref B 82), (1, .int (nI t)), (2, .int x)] []
  refine z_aload_n (j := 0) o dX8_plainSprouts_0 rfl ?_
  refine z_bipush (v := 12) o dX8_plainSprouts_1 (by decide) ?_
  refine z_callVv (As := [.int 12]) (n := 1) (st := []) o dX8_plainSprouts_3 (c_X8_begins hB M N (k) 12 (by omega) h18) zc_X8_236 (by decide) (i := 82) (by rw [hB]; exact zsh_lt rfl (by decide)) (zg_o rfl (by decide)) rfl rfl rfl (Nat.le_of_ble_eq_true rfl) (fun g2 p3 => ?_)
  cases p3
  refine z_aload_n (j := 0) o dX8_plainSprouts_6 rfl ?_
  refine z_iload_n (j := 1) o dX8_plainSprouts_7 rfl ?_
  refine z_iload_n (j := 2) o dX8_plainSprouts_8 rfl ?_
  refine z_callVi (As := [.int (nI t), .int x]) (n := 2) (st := []) o dX8_plainSprouts_9 (c_X8_leans hB (zVo M k ([12])) N (M 83) (by rw [zVo_ne (by decide) (by decide)]) (k + 1) t x ht (by omega) zVo_18) zc_X8_254 (by decide) (i := 82) (by rw [hB]; exact zsh_lt rfl (by decide)) (zg_o rfl (by decide)) rfl rfl rfl (Nat.le_of_ble_eq_true rfl) (fun r4 g5 p6 => ?_)
  obtain ⟨rfl, rfl⟩ := p6
  rw [zVo_app (M := M) (l1 := [12]) (l2 := (vs_l (M 83 (6 + 13 * t + 0)) (M 83 (6 + 13 * t + 1)) t x).2) (by first | rfl | simp)]
  refine z_aload_n (j := 0) o dX8_plainSprouts_12 rfl ?_
  refine z_iload_n (j := 1) o dX8_plainSprouts_13 rfl ?_
  refine z_iconst (v := 1) o dX8_plainSprouts_14 (by decide) ?_
  refine z_callVi (As := [.int (nI t), .int 1]) (n := 2) (st := [.int ((vs_l (M 83 (6 + 13 * t + 0)) (M 83 (6 + 13 * t + 1)) t x).1)]) o dX8_plainSprouts_15 (c_X8_of hB (zVo M k ([12] ++ ((vs_l (M 83 (6 + 13 * t + 0)) (M 83 (6 + 13 * t + 1)) t x).2))) N t 1 (by omega)) zc_X8_55 (by decide) (i := 82) (by rw [hB]; exact zsh_lt rfl (by decide)) (zg_o rfl (by decide)) rfl rfl rfl (Nat.le_of_ble_eq_true rfl) (fun r7 g8 p9 => ?_)
  obtain ⟨rfl, rfl⟩ := p9
  refine zo_rw (y := M 83 (6 + 13 * t + 1)) (by rw [zVo_ne (by decide) (by decide)]) ?_
  refine z_isub o dX8_plainSprouts_18 ?_
  exact kret _ _ _ _ dX8_plainSprouts_19 ⟨rfl, rfl⟩

set_option maxHeartbeats 4000000 in
set_option maxRecDepth 100000 in
theorem c_X8_sprouts {B : zB} (hB : znn B = 95) (M : zM) (N : zN) (ρ : Nat → Int32) (hρ : M 83 = ρ) (k t : Nat) (x : Int32) (ht : t < 4) (hk : k + 8 ≤ 30) (h18 : M 82 18 = nI k) : zCi B (zg B M N) yX8_sprouts cX8_sprouts 3 (some .int) 8 [zref B 82, .int (nI t), .int x] (fun r g' => g' = zg B (zVo M k (vs_r (ρ (6 + 13 * t + 0)) (ρ (6 + 13 * t + 1)) t x).2) N ∧ r = (vs_r (ρ (6 + 13 * t + 0)) (ρ (6 + 13 * t + 1)) t x).1) := by
  subst hρ
  refine zCi_of (by decide +kernel) (Nat.le_of_ble_eq_true rfl) .int rfl (fun _ _ _ => rfl) ?_
  intro X o kret
  show zW X B (zg B M N) 0 [(0, zref B 82), (1, .int (nI t)), (2, .int x)] []
  refine z_aload_n (j := 0) o dX8_sprouts_0 rfl ?_
  refine z_iload_n (j := 1) o dX8_sprouts_1 rfl ?_
  refine z_iconst (v := 0) o dX8_sprouts_2 (by decide) ?_
  refine z_callVi (As := [.int (nI t), .int 0]) (n := 2) (st := []) o dX8_sprouts_3 (c_X8_of hB M N t 0 (by omega)) zc_X8_55 (by decide) (i := 82) (by rw [hB]; exact zsh_lt rfl (by decide)) (zg_o rfl (by decide)) rfl rfl rfl (Nat.le_of_ble_eq_true rfl) (fun r1 g2 p3 => ?_)
  obtain ⟨rfl, rfl⟩ := p3
  refine z_lcase 3 (off := 26) (tgt := 32) o dX8_sprouts_6 (by decide) (by decide) (by decide) (fun c4 => ?_) (fun c4 => ?_)
  · refine z_aload_n (j := 0) o dX8_sprouts_32 rfl ?_
    refine z_bipush (v := 40) o dX8_sprouts_33 (by decide) ?_
    refine z_callVv (As := [.int 40]) (n := 1) (st := []) o dX8_sprouts_35 (c_X8_begins hB M N (k) 40 (by omega) h18) zc_X8_236 (by decide) (i := 82) (by rw [hB]; exact zsh_lt rfl (by decide)) (zg_o rfl (by decide)) rfl rfl rfl (Nat.le_of_ble_eq_true rfl) (fun g6 p7 => ?_)
    cases p7
    refine z_aload_n (j := 0) o dX8_sprouts_38 rfl ?_
    refine z_iload_n (j := 1) o dX8_sprouts_39 rfl ?_
    refine z_iload_n (j := 2) o dX8_sprouts_40 rfl ?_
    refine z_iconst (v := 2) o dX8_sprouts_41 (by decide) ?_
    refine z_idiv o dX8_sprouts_42 (by decide) ?_
    refine z_callVi (As := [.int (nI t), .int (x / 2)]) (n := 2) (st := []) o dX8_sprouts_43 (c_X8_plainSprouts hB (zVo M k ([40])) N (M 83) (by rw [zVo_ne (by decide) (by decide)]) (k + 1) t (x / 2) ht (by omega) zVo_18) zc_X8_257 (by decide) (i := 82) (by rw [hB]; exact zsh_lt rfl (by decide)) (zg_o rfl (by decide)) rfl rfl rfl (Nat.le_of_ble_eq_true rfl) (fun r8 g9 p10 => ?_)
    obtain ⟨rfl, rfl⟩ := p10
    rw [zVo_app (M := M) (l1 := [40]) (l2 := (vs_pr (M 83 (6 + 13 * t + 0)) (M 83 (6 + 13 * t + 1)) t (x / 2)).2) (by first | rfl | simp)]
    exact kret _ _ _ _ dX8_sprouts_46 ⟨by unfold vs_r; rw [if_pos c4] <;> rfl, by unfold vs_r; rw [if_pos c4] <;> rfl⟩
  refine z_lcase 4 (off := 41) (tgt := 47) o dX8_sprouts_6 (by decide) (by decide) (by decide) (fun c11 => ?_) (fun c11 => ?_)
  · refine z_aload_n (j := 0) o dX8_sprouts_47 rfl ?_
    refine z_bipush (v := 51) o dX8_sprouts_48 (by decide) ?_
    refine z_callVv (As := [.int 51]) (n := 1) (st := []) o dX8_sprouts_50 (c_X8_begins hB M N (k) 51 (by omega) h18) zc_X8_236 (by decide) (i := 82) (by rw [hB]; exact zsh_lt rfl (by decide)) (zg_o rfl (by decide)) rfl rfl rfl (Nat.le_of_ble_eq_true rfl) (fun g13 p14 => ?_)
    cases p14
    refine z_aload_n (j := 0) o dX8_sprouts_53 rfl ?_
    refine z_iload_n (j := 1) o dX8_sprouts_54 rfl ?_
    refine z_iload_n (j := 2) o dX8_sprouts_55 rfl ?_
    refine z_callVi (As := [.int (nI t), .int x]) (n := 2) (st := []) o dX8_sprouts_56 (c_X8_plainSprouts hB (zVo M k ([51])) N (M 83) (by rw [zVo_ne (by decide) (by decide)]) (k + 1) t x ht (by omega) zVo_18) zc_X8_257 (by decide) (i := 82) (by rw [hB]; exact zsh_lt rfl (by decide)) (zg_o rfl (by decide)) rfl rfl rfl (Nat.le_of_ble_eq_true rfl) (fun r15 g16 p17 => ?_)
    obtain ⟨rfl, rfl⟩ := p17
    rw [zVo_app (M := M) (l1 := [51]) (l2 := (vs_pr (M 83 (6 + 13 * t + 0)) (M 83 (6 + 13 * t + 1)) t x).2) (by first | rfl | simp)]
    refine z_iload_n (j := 1) o dX8_sprouts_59 rfl ?_
    refine z_ixor o dX8_sprouts_60 ?_
    exact kret _ _ _ _ dX8_sprouts_61 ⟨by unfold vs_r; rw [if_neg c4, if_pos c11] <;> rfl, by unfold vs_r; rw [if_neg c4, if_pos c11] <;> rfl⟩
  refine z_ldef (tgt := 62) o dX8_sprouts_6 (by decide) (by show Op.lookupswitch.offset [(3, 26), (4, 41)] _ _ = _; rw [lv_osw (a := 3) c4 rfl, lv_osw (a := 4) c11 rfl]; rfl) (by decide) ?_
  refine z_aload_n (j := 0) o dX8_sprouts_62 rfl ?_
  refine z_iload_n (j := 1) o dX8_sprouts_63 rfl ?_
  refine z_iload_n (j := 2) o dX8_sprouts_64 rfl ?_
  refine z_callVi (As := [.int (nI t), .int x]) (n := 2) (st := []) o dX8_sprouts_65 (c_X8_plainSprouts hB M N (M 83) rfl (k) t x ht (by omega) h18) zc_X8_257 (by decide) (i := 82) (by rw [hB]; exact zsh_lt rfl (by decide)) (zg_o rfl (by decide)) rfl rfl rfl (Nat.le_of_ble_eq_true rfl) (fun r18 g19 p20 => ?_)
  obtain ⟨rfl, rfl⟩ := p20
  exact kret _ _ _ _ dX8_sprouts_68 ⟨by unfold vs_r; rw [if_neg c4, if_neg c11] <;> rfl, by unfold vs_r; rw [if_neg c4, if_neg c11] <;> rfl⟩

set_option maxHeartbeats 4000000 in
set_option maxRecDepth 100000 in
theorem c_X8_plainParts {B : zB} (hB : znn B = 95) (M : zM) (N : zN) (ρ : Nat → Int32) (hρ : M 83 = ρ) (k t : Nat) (x : Int32) (ht : t < 4) (hk : k + 1 ≤ 30) (h18 : M 82 18 = nI k) : zCi B (zg B M N) yX8_plainParts cX8_plainParts 4 (some .int) 1 [zref B 82, .int (nI t), .int x] (fun r g' => g' = zg B (zu (zVo M k [13]) 82 19 (if vs_by (ρ (6 + 13 * t + 1)) t = 0 then 1 else 0)) N ∧ r = vs_pp (ρ (6 + 13 * t + 1)) t x) := by
  subst hρ
  refine zCi_of (by decide +kernel) (Nat.le_of_ble_eq_true rfl) .int rfl (fun _ _ _ => rfl) ?_
  intro X o kret
  show zW X B (zg B M N) 0 [(0, zref B 82), (1, .int (nI t)), (2, .int x)] []
  refine z_aload_n (j := 0) o dX8_plainParts_0 rfl ?_
  refine z_bipush (v := 13) o dX8_plainParts_1 (by decide) ?_
  refine z_callVv (As := [.int 13]) (n := 1) (st := []) o dX8_plainParts_3 (c_X8_begins hB M N (k) 13 (by omega) h18) zc_X8_236 (by decide) (i := 82) (by rw [hB]; exact zsh_lt rfl (by decide)) (zg_o rfl (by decide)) rfl rfl rfl (Nat.le_of_ble_eq_true rfl) (fun g2 p3 => ?_)
  cases p3
  refine z_aload_n (j := 0) o dX8_plainParts_6 rfl ?_
  refine z_iload_n (j := 1) o dX8_plainParts_7 rfl ?_
  refine z_iconst (v := 1) o dX8_plainParts_8 (by decide) ?_
  refine z_callVi (As := [.int (nI t), .int 1]) (n := 2) (st := []) o dX8_plainParts_9 (c_X8_of hB (zVo M k ([13])) N t 1 (by omega)) zc_X8_55 (by decide) (i := 82) (by rw [hB]; exact zsh_lt rfl (by decide)) (zg_o rfl (by decide)) rfl rfl rfl (Nat.le_of_ble_eq_true rfl) (fun r4 g5 p6 => ?_)
  obtain ⟨rfl, rfl⟩ := p6
  refine zo_rw (y := M 83 (6 + 13 * t + 1)) (by rw [zVo_ne (by decide) (by decide)]) ?_
  refine z_iload_n (j := 1) o dX8_plainParts_12 rfl ?_
  refine z_isub o dX8_plainParts_13 ?_
  refine z_istore_n (i := 3) (lv2 := [(3, .int ((M 83 (6 + 13 * t + 1)) - (nI t))), (0, zref B 82), (1, .int (nI t)), (2, .int x)]) o dX8_plainParts_14 rfl (by decide) rfl ?_
  refine z_aload_n (j := 1) o dX8_plainParts_15 rfl ?_
  refine z_iload_n (j := 0) o dX8_plainParts_16 rfl ?_
  refine z_ifne (tgt := 24) o dX8_plainParts_17 (by decide) (fun c7 => ?_) (fun c7 => ?_)
  · have hb9 : ¬ (vs_by (M 83 (6 + 13 * t + 1)) t = 0) := c7
    refine z_iconst (v := 0) o dX8_plainParts_24 (by decide) ?_
    refine zo_putz (i := 82) o hB dX8_plainParts_25 zp_X8_260 rfl (by decide) (by decide) (Nat.le_of_ble_eq_true rfl) (by decide) ?_
    refine z_aload_n (j := 1) o dX8_plainParts_28 rfl ?_
    refine zo_get (i := 82) o hB dX8_plainParts_29 zf_X8_260 rfl (by decide) rfl ?_
    refine zo_rw (y := 0) (by rw [zu_at, upd_self]) ?_
    refine z_ifeq (tgt := 39) o dX8_plainParts_32 (by decide) (fun c8 => ?_) (fun c8 => ?_)
    · refine z_iload_n (j := 3) o dX8_plainParts_39 rfl ?_
      refine z_iload_n (j := 0) o dX8_plainParts_40 rfl ?_
      refine z_idiv o dX8_plainParts_41 (hb9) ?_
      exact kret _ _ _ _ dX8_plainParts_42 ⟨by rw [if_neg hb9], by unfold vs_pp; rw [if_neg hb9]; try rfl⟩
    · exact absurd (congrArg nI (show 0 = 0 by omega)) c8
  · have hb9 :  (vs_by (M 83 (6 + 13 * t + 1)) t = 0) := c7
    refine z_iconst (v := 1) o dX8_plainParts_20 (by decide) ?_
    refine z_goto (tgt := 25) o dX8_plainParts_21 (by decide) ?_
    refine zo_putz (i := 82) o hB dX8_plainParts_25 zp_X8_260 rfl (by decide) (by decide) (Nat.le_of_ble_eq_true rfl) (by decide) ?_
    refine z_aload_n (j := 1) o dX8_plainParts_28 rfl ?_
    refine zo_get (i := 82) o hB dX8_plainParts_29 zf_X8_260 rfl (by decide) rfl ?_
    refine zo_rw (y := 1) (by rw [zu_at, upd_self]) ?_
    refine z_ifeq (tgt := 39) o dX8_plainParts_32 (by decide) (fun c9 => ?_) (fun c9 => ?_)
    · exact absurd ((nI_eq (a := 1) (b := 0) (by omega) (by omega)).mp c9) (by omega)
    · refine z_iconst (v := 0) o dX8_plainParts_35 (by decide) ?_
      refine z_goto (tgt := 42) o dX8_plainParts_36 (by decide) ?_
      exact kret _ _ _ _ dX8_plainParts_42 ⟨by rw [if_pos hb9], by unfold vs_pp; rw [if_pos hb9]; try rfl⟩

set_option maxHeartbeats 4000000 in
set_option maxRecDepth 100000 in
theorem c_X8_parts {B : zB} (hB : znn B = 95) (M : zM) (N : zN) (ρ : Nat → Int32) (hρ : M 83 = ρ) (k t : Nat) (x : Int32) (ht : t < 4) (hk : k + 8 ≤ 30) (h18 : M 82 18 = nI k) : zCi B (zg B M N) yX8_parts cX8_parts 4 (some .int) 7 [zref B 82, .int (nI t), .int x] (fun r g' => g' = zg B (zu (zVo M k (vs_p (ρ (6 + 13 * t + 0)) (ρ (6 + 13 * t + 1)) t x).2) 82 19 (if vs_by (ρ (6 + 13 * t + 1)) t = 0 then 1 else 0)) N ∧ r = (vs_p (ρ (6 + 13 * t + 0)) (ρ (6 + 13 * t + 1)) t x).1) := by
  subst hρ
  refine zCi_of (by decide +kernel) (Nat.le_of_ble_eq_true rfl) .int rfl (fun _ _ _ => rfl) ?_
  intro X o kret
  show zW X B (zg B M N) 0 [(0, zref B 82), (1, .int (nI t)), (2, .int x)] []
  by_cases hby : vs_by (M 83 (6 + 13 * t + 1)) t = 0
  · refine z_aload_n (j := 0) o dX8_parts_0 rfl ?_
    refine z_iload_n (j := 1) o dX8_parts_1 rfl ?_
    refine z_iconst (v := 0) o dX8_parts_2 (by decide) ?_
    refine z_callVi (As := [.int (nI t), .int 0]) (n := 2) (st := []) o dX8_parts_3 (c_X8_of hB M N t 0 (by omega)) zc_X8_55 (by decide) (i := 82) (by rw [hB]; exact zsh_lt rfl (by decide)) (zg_o rfl (by decide)) rfl rfl rfl (Nat.le_of_ble_eq_true rfl) (fun r1 g2 p3 => ?_)
    obtain ⟨rfl, rfl⟩ := p3
    refine z_iconst (v := 1) o dX8_parts_6 (by decide) ?_
    refine z_icmpeq (tgt := 20) o dX8_parts_7 (by decide) (fun c4 => ?_) (fun c4 => ?_)
    · refine z_aload_n (j := 0) o dX8_parts_20 rfl ?_
      refine z_bipush (v := 21) o dX8_parts_21 (by decide) ?_
      refine z_callVv (As := [.int 21]) (n := 1) (st := []) o dX8_parts_23 (c_X8_begins hB M N (k) 21 (by omega) h18) zc_X8_236 (by decide) (i := 82) (by rw [hB]; exact zsh_lt rfl (by decide)) (zg_o rfl (by decide)) rfl rfl rfl (Nat.le_of_ble_eq_true rfl) (fun g6 p7 => ?_)
      cases p7
      refine z_aload_n (j := 0) o dX8_parts_26 rfl ?_
      refine z_iload_n (j := 1) o dX8_parts_27 rfl ?_
      refine z_iload_n (j := 2) o dX8_parts_28 rfl ?_
      refine z_callVi (As := [.int (nI t), .int x]) (n := 2) (st := []) o dX8_parts_29 (c_X8_plainParts hB (zVo M k ([21])) N (M 83) (by rw [zVo_ne (by decide) (by decide)]) (k + 1) t x ht (by omega) zVo_18) zc_X8_263 (by decide) (i := 82) (by rw [hB]; exact zsh_lt rfl (by decide)) (zg_o rfl (by decide)) rfl rfl rfl (Nat.le_of_ble_eq_true rfl) (fun r8 g9 p10 => ?_)
      obtain ⟨rfl, rfl⟩ := p10
      rw [if_pos hby]
      rw [zVo_app (M := M) (l1 := [21]) (l2 := [13]) (by first | rfl | simp)]
      refine z_istore_n (i := 3) (lv2 := [(3, .int (vs_pp (M 83 (6 + 13 * t + 1)) t x)), (0, zref B 82), (1, .int (nI t)), (2, .int x)]) o dX8_parts_32 rfl (by decide) rfl ?_
      refine z_aload_n (j := 1) o dX8_parts_33 rfl ?_
      refine zo_get (i := 82) o hB dX8_parts_34 zf_X8_260 rfl (by decide) rfl ?_
      refine zo_rw (y := 1) (by rw [zu_at, upd_self]) ?_
      refine z_ifeq (tgt := 44) o dX8_parts_37 (by decide) (fun c11 => ?_) (fun c11 => ?_)
      · exact absurd ((nI_eq (a := 1) (b := 0) (by omega) (by omega)).mp c11) (by omega)
      · refine z_iconst (v := 0) o dX8_parts_40 (by decide) ?_
        refine z_goto (tgt := 52) o dX8_parts_41 (by decide) ?_
        exact kret _ _ _ _ dX8_parts_52 ⟨by unfold vs_p; rw [if_pos (Or.inl c4), if_pos hby, if_pos hby] <;> rfl, by unfold vs_p; rw [if_pos (Or.inl c4), if_pos hby]⟩
    · refine z_aload_n (j := 0) o dX8_parts_10 rfl ?_
      refine z_iload_n (j := 1) o dX8_parts_11 rfl ?_
      refine z_iconst (v := 0) o dX8_parts_12 (by decide) ?_
      refine z_callVi (As := [.int (nI t), .int 0]) (n := 2) (st := []) o dX8_parts_13 (c_X8_of hB M N t 0 (by omega)) zc_X8_55 (by decide) (i := 82) (by rw [hB]; exact zsh_lt rfl (by decide)) (zg_o rfl (by decide)) rfl rfl rfl (Nat.le_of_ble_eq_true rfl) (fun r12 g13 p14 => ?_)
      obtain ⟨rfl, rfl⟩ := p14
      refine z_iconst (v := 4) o dX8_parts_16 (by decide) ?_
      refine z_icmpne (tgt := 53) o dX8_parts_17 (by decide) (fun c15 => ?_) (fun c15 => ?_)
      · refine z_aload_n (j := 0) o dX8_parts_53 rfl ?_
        refine z_iload_n (j := 1) o dX8_parts_54 rfl ?_
        refine z_iload_n (j := 2) o dX8_parts_55 rfl ?_
        refine z_callVi (As := [.int (nI t), .int x]) (n := 2) (st := []) o dX8_parts_56 (c_X8_plainParts hB M N (M 83) rfl (k) t x ht (by omega) h18) zc_X8_263 (by decide) (i := 82) (by rw [hB]; exact zsh_lt rfl (by decide)) (zg_o rfl (by decide)) rfl rfl rfl (Nat.le_of_ble_eq_true rfl) (fun r16 g17 p18 => ?_)
        obtain ⟨rfl, rfl⟩ := p18
        rw [if_pos hby]
        exact kret _ _ _ _ dX8_parts_59 ⟨by unfold vs_p; rw [if_neg (fun q => q.elim c4 c15), if_pos hby] <;> rfl, by unfold vs_p; rw [if_neg (fun q => q.elim c4 c15)]⟩
      · refine z_aload_n (j := 0) o dX8_parts_20 rfl ?_
        refine z_bipush (v := 21) o dX8_parts_21 (by decide) ?_
        refine z_callVv (As := [.int 21]) (n := 1) (st := []) o dX8_parts_23 (c_X8_begins hB M N (k) 21 (by omega) h18) zc_X8_236 (by decide) (i := 82) (by rw [hB]; exact zsh_lt rfl (by decide)) (zg_o rfl (by decide)) rfl rfl rfl (Nat.le_of_ble_eq_true rfl) (fun g20 p21 => ?_)
        cases p21
        refine z_aload_n (j := 0) o dX8_parts_26 rfl ?_
        refine z_iload_n (j := 1) o dX8_parts_27 rfl ?_
        refine z_iload_n (j := 2) o dX8_parts_28 rfl ?_
        refine z_callVi (As := [.int (nI t), .int x]) (n := 2) (st := []) o dX8_parts_29 (c_X8_plainParts hB (zVo M k ([21])) N (M 83) (by rw [zVo_ne (by decide) (by decide)]) (k + 1) t x ht (by omega) zVo_18) zc_X8_263 (by decide) (i := 82) (by rw [hB]; exact zsh_lt rfl (by decide)) (zg_o rfl (by decide)) rfl rfl rfl (Nat.le_of_ble_eq_true rfl) (fun r22 g23 p24 => ?_)
        obtain ⟨rfl, rfl⟩ := p24
        rw [if_pos hby]
        rw [zVo_app (M := M) (l1 := [21]) (l2 := [13]) (by first | rfl | simp)]
        refine z_istore_n (i := 3) (lv2 := [(3, .int (vs_pp (M 83 (6 + 13 * t + 1)) t x)), (0, zref B 82), (1, .int (nI t)), (2, .int x)]) o dX8_parts_32 rfl (by decide) rfl ?_
        refine z_aload_n (j := 1) o dX8_parts_33 rfl ?_
        refine zo_get (i := 82) o hB dX8_parts_34 zf_X8_260 rfl (by decide) rfl ?_
        refine zo_rw (y := 1) (by rw [zu_at, upd_self]) ?_
        refine z_ifeq (tgt := 44) o dX8_parts_37 (by decide) (fun c25 => ?_) (fun c25 => ?_)
        · exact absurd ((nI_eq (a := 1) (b := 0) (by omega) (by omega)).mp c25) (by omega)
        · refine z_iconst (v := 0) o dX8_parts_40 (by decide) ?_
          refine z_goto (tgt := 52) o dX8_parts_41 (by decide) ?_
          exact kret _ _ _ _ dX8_parts_52 ⟨by unfold vs_p; rw [if_pos (Or.inr c15), if_pos hby, if_pos hby] <;> rfl, by unfold vs_p; rw [if_pos (Or.inr c15), if_pos hby]⟩
  · refine z_aload_n (j := 0) o dX8_parts_0 rfl ?_
    refine z_iload_n (j := 1) o dX8_parts_1 rfl ?_
    refine z_iconst (v := 0) o dX8_parts_2 (by decide) ?_
    refine z_callVi (As := [.int (nI t), .int 0]) (n := 2) (st := []) o dX8_parts_3 (c_X8_of hB M N t 0 (by omega)) zc_X8_55 (by decide) (i := 82) (by rw [hB]; exact zsh_lt rfl (by decide)) (zg_o rfl (by decide)) rfl rfl rfl (Nat.le_of_ble_eq_true rfl) (fun r26 g27 p28 => ?_)
    obtain ⟨rfl, rfl⟩ := p28
    refine z_iconst (v := 1) o dX8_parts_6 (by decide) ?_
    refine z_icmpeq (tgt := 20) o dX8_parts_7 (by decide) (fun c29 => ?_) (fun c29 => ?_)
    · refine z_aload_n (j := 0) o dX8_parts_20 rfl ?_
      refine z_bipush (v := 21) o dX8_parts_21 (by decide) ?_
      refine z_callVv (As := [.int 21]) (n := 1) (st := []) o dX8_parts_23 (c_X8_begins hB M N (k) 21 (by omega) h18) zc_X8_236 (by decide) (i := 82) (by rw [hB]; exact zsh_lt rfl (by decide)) (zg_o rfl (by decide)) rfl rfl rfl (Nat.le_of_ble_eq_true rfl) (fun g31 p32 => ?_)
      cases p32
      refine z_aload_n (j := 0) o dX8_parts_26 rfl ?_
      refine z_iload_n (j := 1) o dX8_parts_27 rfl ?_
      refine z_iload_n (j := 2) o dX8_parts_28 rfl ?_
      refine z_callVi (As := [.int (nI t), .int x]) (n := 2) (st := []) o dX8_parts_29 (c_X8_plainParts hB (zVo M k ([21])) N (M 83) (by rw [zVo_ne (by decide) (by decide)]) (k + 1) t x ht (by omega) zVo_18) zc_X8_263 (by decide) (i := 82) (by rw [hB]; exact zsh_lt rfl (by decide)) (zg_o rfl (by decide)) rfl rfl rfl (Nat.le_of_ble_eq_true rfl) (fun r33 g34 p35 => ?_)
      obtain ⟨rfl, rfl⟩ := p35
      rw [if_neg hby]
      rw [zVo_app (M := M) (l1 := [21]) (l2 := [13]) (by first | rfl | simp)]
      refine z_istore_n (i := 3) (lv2 := [(3, .int (vs_pp (M 83 (6 + 13 * t + 1)) t x)), (0, zref B 82), (1, .int (nI t)), (2, .int x)]) o dX8_parts_32 rfl (by decide) rfl ?_
      refine z_aload_n (j := 1) o dX8_parts_33 rfl ?_
      refine zo_get (i := 82) o hB dX8_parts_34 zf_X8_260 rfl (by decide) rfl ?_
      refine zo_rw (y := 0) (by rw [zu_at, upd_self]) ?_
      refine z_ifeq (tgt := 44) o dX8_parts_37 (by decide) (fun c36 => ?_) (fun c36 => ?_)
      · refine z_iload_n (j := 0) o dX8_parts_44 rfl ?_
        refine z_aload_n (j := 1) o dX8_parts_45 rfl ?_
        refine z_iload_n (j := 2) o dX8_parts_46 rfl ?_
        refine z_iconst (v := 1) o dX8_parts_47 (by decide) ?_
        refine z_callVi (As := [.int (nI t), .int 1]) (n := 2) (st := [.int (vs_pp (M 83 (6 + 13 * t + 1)) t x)]) o dX8_parts_48 (c_X8_leans hB (zu (zVo M k ([21] ++ [13])) 82 19 0) N (M 83) (by rw [zu_ne (by decide)]; rw [zVo_ne (by decide) (by decide)]) (k + 2) t 1 ht (by omega) (by rw [zu_at, upd_ne (by decide)]; exact zVo_18)) zc_X8_254 (by decide) (i := 82) (by rw [hB]; exact zsh_lt rfl (by decide)) (zg_o rfl (by decide)) rfl rfl rfl (Nat.le_of_ble_eq_true rfl) (fun r37 g38 p39 => ?_)
        obtain ⟨rfl, rfl⟩ := p39
        rw [zVo_19, zVo_app (M := M) (l1 := [21] ++ [13]) (l2 := (vs_l (M 83 (6 + 13 * t + 0)) (M 83 (6 + 13 * t + 1)) t 1).2) (by first | rfl | simp)]
        refine z_iadd o dX8_parts_51 ?_
        exact kret _ _ _ _ dX8_parts_52 ⟨by unfold vs_p; rw [if_pos (Or.inl c29), if_neg hby, if_neg hby] <;> rfl, by unfold vs_p; rw [if_pos (Or.inl c29), if_neg hby]⟩
      · exact absurd (congrArg nI (show 0 = 0 by omega)) c36
    · refine z_aload_n (j := 0) o dX8_parts_10 rfl ?_
      refine z_iload_n (j := 1) o dX8_parts_11 rfl ?_
      refine z_iconst (v := 0) o dX8_parts_12 (by decide) ?_
      refine z_callVi (As := [.int (nI t), .int 0]) (n := 2) (st := []) o dX8_parts_13 (c_X8_of hB M N t 0 (by omega)) zc_X8_55 (by decide) (i := 82) (by rw [hB]; exact zsh_lt rfl (by decide)) (zg_o rfl (by decide)) rfl rfl rfl (Nat.le_of_ble_eq_true rfl) (fun r40 g41 p42 => ?_)
      obtain ⟨rfl, rfl⟩ := p42
      refine z_iconst (v := 4) o dX8_parts_16 (by decide) ?_
      refine z_icmpne (tgt := 53) o dX8_parts_17 (by decide) (fun c43 => ?_) (fun c43 => ?_)
      · refine z_aload_n (j := 0) o dX8_parts_53 rfl ?_
        refine z_iload_n (j := 1) o dX8_parts_54 rfl ?_
        refine z_iload_n (j := 2) o dX8_parts_55 rfl ?_
        refine z_callVi (As := [.int (nI t), .int x]) (n := 2) (st := []) o dX8_parts_56 (c_X8_plainParts hB M N (M 83) rfl (k) t x ht (by omega) h18) zc_X8_263 (by decide) (i := 82) (by rw [hB]; exact zsh_lt rfl (by decide)) (zg_o rfl (by decide)) rfl rfl rfl (Nat.le_of_ble_eq_true rfl) (fun r44 g45 p46 => ?_)
        obtain ⟨rfl, rfl⟩ := p46
        rw [if_neg hby]
        exact kret _ _ _ _ dX8_parts_59 ⟨by unfold vs_p; rw [if_neg (fun q => q.elim c29 c43), if_neg hby] <;> rfl, by unfold vs_p; rw [if_neg (fun q => q.elim c29 c43)]⟩
      · refine z_aload_n (j := 0) o dX8_parts_20 rfl ?_
        refine z_bipush (v := 21) o dX8_parts_21 (by decide) ?_
        refine z_callVv (As := [.int 21]) (n := 1) (st := []) o dX8_parts_23 (c_X8_begins hB M N (k) 21 (by omega) h18) zc_X8_236 (by decide) (i := 82) (by rw [hB]; exact zsh_lt rfl (by decide)) (zg_o rfl (by decide)) rfl rfl rfl (Nat.le_of_ble_eq_true rfl) (fun g48 p49 => ?_)
        cases p49
        refine z_aload_n (j := 0) o dX8_parts_26 rfl ?_
        refine z_iload_n (j := 1) o dX8_parts_27 rfl ?_
        refine z_iload_n (j := 2) o dX8_parts_28 rfl ?_
        refine z_callVi (As := [.int (nI t), .int x]) (n := 2) (st := []) o dX8_parts_29 (c_X8_plainParts hB (zVo M k ([21])) N (M 83) (by rw [zVo_ne (by decide) (by decide)]) (k + 1) t x ht (by omega) zVo_18) zc_X8_263 (by decide) (i := 82) (by rw [hB]; exact zsh_lt rfl (by decide)) (zg_o rfl (by decide)) rfl rfl rfl (Nat.le_of_ble_eq_true rfl) (fun r50 g51 p52 => ?_)
        obtain ⟨rfl, rfl⟩ := p52
        rw [if_neg hby]
        rw [zVo_app (M := M) (l1 := [21]) (l2 := [13]) (by first | rfl | simp)]
        refine z_istore_n (i := 3) (lv2 := [(3, .int (vs_pp (M 83 (6 + 13 * t + 1)) t x)), (0, zref B 82), (1, .int (nI t)), (2, .int x)]) o dX8_parts_32 rfl (by decide) rfl ?_
        refine z_aload_n (j := 1) o dX8_parts_33 rfl ?_
        refine zo_get (i := 82) o hB dX8_parts_34 zf_X8_260 rfl (by decide) rfl ?_
        refine zo_rw (y := 0) (by rw [zu_at, upd_self]) ?_
        refine z_ifeq (tgt := 44) o dX8_parts_37 (by decide) (fun c53 => ?_) (fun c53 => ?_)
        · refine z_iload_n (j := 0) o dX8_parts_44 rfl ?_
          refine z_aload_n (j := 1) o dX8_parts_45 rfl ?_
          refine z_iload_n (j := 2) o dX8_parts_46 rfl ?_
          refine z_iconst (v := 1) o dX8_parts_47 (by decide) ?_
          refine z_callVi (As := [.int (nI t), .int 1]) (n := 2) (st := [.int (vs_pp (M 83 (6 + 13 * t + 1)) t x)]) o dX8_parts_48 (c_X8_leans hB (zu (zVo M k ([21] ++ [13])) 82 19 0) N (M 83) (by rw [zu_ne (by decide)]; rw [zVo_ne (by decide) (by decide)]) (k + 2) t 1 ht (by omega) (by rw [zu_at, upd_ne (by decide)]; exact zVo_18)) zc_X8_254 (by decide) (i := 82) (by rw [hB]; exact zsh_lt rfl (by decide)) (zg_o rfl (by decide)) rfl rfl rfl (Nat.le_of_ble_eq_true rfl) (fun r54 g55 p56 => ?_)
          obtain ⟨rfl, rfl⟩ := p56
          rw [zVo_19, zVo_app (M := M) (l1 := [21] ++ [13]) (l2 := (vs_l (M 83 (6 + 13 * t + 0)) (M 83 (6 + 13 * t + 1)) t 1).2) (by first | rfl | simp)]
          refine z_iadd o dX8_parts_51 ?_
          exact kret _ _ _ _ dX8_parts_52 ⟨by unfold vs_p; rw [if_pos (Or.inr c43), if_neg hby, if_neg hby] <;> rfl, by unfold vs_p; rw [if_pos (Or.inr c43), if_neg hby]⟩
        · exact absurd (congrArg nI (show 0 = 0 by omega)) c53

def sp_so (C ρ : Nat → Int32) (s i : Nat) : Nat → Int32
  | 0 => 1
  | k + 1 => if sp_so C ρ s i k = 0 then 0 else if C (24 * s + k) = ρ (6 + 13 * i + (5 + k)) then 1 else 0
theorem sp_so_0 {C ρ : Nat → Int32} {s i k : Nat} (h : sp_so C ρ s i k = 0) : ∀ n, sp_so C ρ s i (k + n) = 0
  | 0 => h
  | n + 1 => by
    show (if sp_so C ρ s i (k + n) = 0 then 0 else _) = (0 : Int32)
    rw [if_pos (sp_so_0 h n)]
theorem sp_so_01 (C ρ : Nat → Int32) (s i : Nat) : ∀ k, sp_so C ρ s i k = 0 ∨ sp_so C ρ s i k = 1
  | 0 => Or.inr rfl
  | k + 1 => by
    show (if sp_so C ρ s i k = 0 then 0 else if C (24 * s + k) = ρ (6 + 13 * i + (5 + k)) then 1 else 0) = (0 : Int32) ∨ _ = (1 : Int32)
    show (if sp_so C ρ s i k = 0 then 0 else if C (24 * s + k) = ρ (6 + 13 * i + (5 + k)) then 1 else 0) = (0 : Int32) ∨ (if sp_so C ρ s i k = 0 then 0 else if C (24 * s + k) = ρ (6 + 13 * i + (5 + k)) then 1 else 0) = (1 : Int32)
    split
    · exact Or.inl rfl
    · split
      · exact Or.inr rfl
      · exact Or.inl rfl
set_option maxHeartbeats 4000000 in
set_option maxRecDepth 100000 in
theorem c_X8_isSo {B : zB} (hB : znn B = 95) (M : zM) (N : zN) (s i n : Nat) (hs : s < 4) (hi4 : i < 4) (hn : M 88 s = nI n) (hn8 : n ≤ 8) : zCi B (zg B M N) yX8_isSo cX8_isSo 5 (some .boolean) 1 [zref B 82, .int (nI s), .int (nI i)] (fun r g' => g' = zg B M N ∧ r = sp_so (M 89) (M 83) s i n) := by
  refine zCi_of (by decide +kernel) (Nat.le_of_ble_eq_true rfl) .boolean rfl (fun r _ h => zin_z r (by rw [h.2]; exact sp_so_01 _ _ _ _ _)) ?_
  intro X o kret
  show zW X B (zg B M N) 0 [(0, zref B 82), (1, .int (nI s)), (2, .int (nI i))] []
  refine z_iconst (v := 1) o dX8_isSo_0 (by decide) ?_
  refine z_istore_n (i := 3) (lv2 := [(3, .int 1), (0, zref B 82), (1, .int (nI s)), (2, .int (nI i))]) o dX8_isSo_1 rfl (by decide) rfl ?_
  refine z_iconst (v := 0) o dX8_isSo_2 (by decide) ?_
  refine z_istore (i := 4) (lv2 := [(4, .int 0), (3, .int 1), (0, zref B 82), (1, .int (nI s)), (2, .int (nI i))]) o dX8_isSo_3 (by decide) rfl ?_
  have LOOP : ∀ nq kq : Nat, kq + nq = n → zW X B (zg B M N) 5 [(4, .int (nI kq)), (3, .int (sp_so (M 89) (M 83) s i kq)), (0, zref B 82), (1, .int (nI s)), (2, .int (nI i))] [] := by
    intro nq
    induction nq with
    | zero =>
      intro kq hkq
      have hz : kq = n := by omega
      refine z_iload (j := 0) o dX8_isSo_5 rfl ?_
      refine z_aload_n (j := 2) o dX8_isSo_7 rfl ?_
      refine zo_get (i := 82) o hB dX8_isSo_8 zf_X8_25 rfl (by decide) rfl ?_
      refine z_iload_n (j := 3) o dX8_isSo_11 rfl ?_
      refine zo_iald (i := 88) (j := s) o hB dX8_isSo_12 rfl (show s < 4 by omega) (by decide) ?_
      refine zo_rw (y := nI n) (hn) ?_
      refine z_icmpge (tgt := 56) o dX8_isSo_13 (by decide) (fun c1 => ?_) (fun c1 => ?_)
      · refine z_iload_n (j := 1) o dX8_isSo_56 rfl ?_
        exact kret _ _ _ _ dX8_isSo_57 ⟨rfl, by rw [hz]⟩
      · exact absurd c1 (nI_nlt (a := kq) (b := n) (by omega) (by omega))
    | succ nq ih =>
      intro kq hkq
      have hlt : kq < n := by omega
      refine z_iload (j := 0) o dX8_isSo_5 rfl ?_
      refine z_aload_n (j := 2) o dX8_isSo_7 rfl ?_
      refine zo_get (i := 82) o hB dX8_isSo_8 zf_X8_25 rfl (by decide) rfl ?_
      refine z_iload_n (j := 3) o dX8_isSo_11 rfl ?_
      refine zo_iald (i := 88) (j := s) o hB dX8_isSo_12 rfl (show s < 4 by omega) (by decide) ?_
      refine zo_rw (y := nI n) (hn) ?_
      refine z_icmpge (tgt := 56) o dX8_isSo_13 (by decide) (fun c2 => ?_) (fun c2 => ?_)
      · exact absurd (nI_lt (a := kq) (b := n) (by omega) (by omega)) c2
      · refine z_iload_n (j := 1) o dX8_isSo_16 rfl ?_
        refine z_ifeq (tgt := 56) o dX8_isSo_17 (by decide) (fun c3 => ?_) (fun c3 => ?_)
        · refine z_iload_n (j := 1) o dX8_isSo_56 rfl ?_
          exact kret _ _ _ _ dX8_isSo_57 ⟨rfl, by have q := sp_so_0 c3 (n - kq); rw [show kq + (n - kq) = n by omega] at q; rw [q, c3]⟩
        · refine z_aload_n (j := 2) o dX8_isSo_20 rfl ?_
          refine zo_get (i := 82) o hB dX8_isSo_21 zf_X8_28 rfl (by decide) rfl ?_
          refine z_bipush (v := 24) o dX8_isSo_24 (by decide) ?_
          refine z_iload_n (j := 3) o dX8_isSo_26 rfl ?_
          refine z_imul o dX8_isSo_27 ?_
          refine zo_rw (y := nI (24 * s)) (zn_mul (rfl) (rfl)) ?_
          refine z_iload (j := 0) o dX8_isSo_28 rfl ?_
          refine z_iadd o dX8_isSo_30 ?_
          refine zo_rw (y := nI (24 * s + kq)) (zn_add (rfl) (rfl)) ?_
          refine zo_iald (i := 89) (j := 24 * s + kq) o hB dX8_isSo_31 rfl (show 24 * s + kq < 96 by omega) (by decide) ?_
          refine z_aload_n (j := 2) o dX8_isSo_32 rfl ?_
          refine z_iload_n (j := 4) o dX8_isSo_33 rfl ?_
          refine z_iconst (v := 5) o dX8_isSo_34 (by decide) ?_
          refine z_iload (j := 0) o dX8_isSo_35 rfl ?_
          refine z_iadd o dX8_isSo_37 ?_
          refine zo_rw (y := nI (5 + kq)) (zn_add (rfl) (rfl)) ?_
          refine z_callVi (As := [.int (nI i), .int (nI (5 + kq))]) (n := 2) (st := [.int (M 89 (24 * s + kq))]) o dX8_isSo_38 (c_X8_of hB M N i (5 + kq) (by omega)) zc_X8_55 (by decide) (i := 82) (by rw [hB]; exact zsh_lt rfl (by decide)) (zg_o rfl (by decide)) rfl rfl rfl (Nat.le_of_ble_eq_true rfl) (fun r4 g5 p6 => ?_)
          obtain ⟨rfl, rfl⟩ := p6
          refine z_icmpne (tgt := 48) o dX8_isSo_41 (by decide) (fun c7 => ?_) (fun c7 => ?_)
          · have hs : sp_so (M 89) (M 83) s i (kq + 1) = 0 := by
              show (if sp_so (M 89) (M 83) s i kq = 0 then 0 else _) = (0 : Int32)
              rw [if_neg c3, if_neg c7]
            refine z_iconst (v := 0) o dX8_isSo_48 (by decide) ?_
            refine z_istore_n (i := 3) (lv2 := [(3, .int 0), (4, .int (nI kq)), (0, zref B 82), (1, .int (nI s)), (2, .int (nI i))]) o dX8_isSo_49 rfl (by decide) rfl ?_
            refine z_iinc (j := 1) (v := nI (kq + 1)) (lv2 := [(4, .int (nI (kq + 1))), (3, .int 0), (0, zref B 82), (1, .int (nI s)), (2, .int (nI i))]) o dX8_isSo_50 rfl (zn_ofInt _) (by decide) rfl ?_
            refine z_goto (tgt := 5) o dX8_isSo_53 (by decide) ?_
            refine zo_lv [0, 1, 2, 3, 4] rfl ?_
            have hh := ih (kq + 1) (by omega)
            rw [hs] at hh
            exact hh
          · have hs : sp_so (M 89) (M 83) s i (kq + 1) = 1 := by
              show (if sp_so (M 89) (M 83) s i kq = 0 then 0 else _) = (1 : Int32)
              rw [if_neg c3, if_pos c7]
            refine z_iconst (v := 1) o dX8_isSo_44 (by decide) ?_
            refine z_goto (tgt := 49) o dX8_isSo_45 (by decide) ?_
            refine z_istore_n (i := 3) (lv2 := [(3, .int 1), (4, .int (nI kq)), (0, zref B 82), (1, .int (nI s)), (2, .int (nI i))]) o dX8_isSo_49 rfl (by decide) rfl ?_
            refine z_iinc (j := 1) (v := nI (kq + 1)) (lv2 := [(4, .int (nI (kq + 1))), (3, .int 1), (0, zref B 82), (1, .int (nI s)), (2, .int (nI i))]) o dX8_isSo_50 rfl (zn_ofInt _) (by decide) rfl ?_
            refine z_goto (tgt := 5) o dX8_isSo_53 (by decide) ?_
            refine zo_lv [0, 1, 2, 3, 4] rfl ?_
            have hh := ih (kq + 1) (by omega)
            rw [hs] at hh
            exact hh
  refine zo_lv [0, 1, 2, 3, 4] rfl ?_
  exact LOOP n 0 (by omega)

