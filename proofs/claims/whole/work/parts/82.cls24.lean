/-! the class: voices -/
set_option maxHeartbeats 4000000 in
set_option maxRecDepth 100000 in
theorem c_X6_begins {B : zB} (hB : znn B = 95) (M : zM) (N : zN) (k : Nat) (b : Int32) (hk : k < 30) (h1 : M 70 1 = nI k) : zCv B (zg B M N) yX6_begins cX6_begins 2 none 0 [zref B 70, .int b] (fun g' => g' = zg B (zWo M k [b]) N) := by
  refine zCv_of (by decide +kernel) (Nat.le_of_ble_eq_true rfl) ?_
  intro X o kret
  show zW X B (zg B M N) 0 [(0, zref B 70), (1, .int b)] []
  refine z_aload_n (j := 0) o dX6_begins_0 rfl ?_
  refine zo_get (i := 70) o hB dX6_begins_1 zf_X6_15 rfl (by decide) (rfl) ?_
  refine zo_rw (y := nI k) (h1) ?_
  refine z_bipush (v := 30) o dX6_begins_4 (by decide) ?_
  refine z_icmpge (tgt := 29) o dX6_begins_6 (by decide) (fun c1 => ?_) (fun c1 => ?_)
  · exact absurd (nI_lt (a := k) (b := 30) (by omega) (by omega)) c1
  · refine z_aload_n (j := 0) o dX6_begins_9 rfl ?_
    refine zo_get (i := 70) o hB dX6_begins_10 zf_X6_11 rfl (by decide) (rfl) ?_
    refine z_aload_n (j := 0) o dX6_begins_13 rfl ?_
    refine zo_get (i := 70) o hB dX6_begins_14 zf_X6_15 rfl (by decide) (rfl) ?_
    refine zo_rw (y := nI k) (h1) ?_
    refine z_iload_n (j := 1) o dX6_begins_17 rfl ?_
    refine zo_iast (i := 71) (j := k) o hB dX6_begins_18 rfl (show k < 30 by omega) (by decide) ?_
    refine zo_nm (fun M2 hM2 => ?_)
    have hqM2 : M2 70 1 = nI k := by rw [hM2, zu_ne (by decide)]; exact h1
    refine z_aload_n (j := 0) o dX6_begins_19 rfl ?_
    refine z_dup o dX6_begins_20 rfl ?_
    refine zo_get (i := 70) o hB dX6_begins_21 zf_X6_15 rfl (by decide) (rfl) ?_
    refine zo_rw (y := nI k) (hqM2) ?_
    refine z_iconst (v := 1) o dX6_begins_24 (by decide) ?_
    refine z_iadd o dX6_begins_25 ?_
    refine zo_rw (y := nI (k + 1)) (zn_add (rfl) (rfl)) ?_
    refine zo_put (i := 70) o hB dX6_begins_26 zp_X6_15 rfl (by decide) (by decide) (Nat.le_of_ble_eq_true rfl) ?_
    refine zo_nm (fun M3 hM3 => ?_)
    exact kret _ _ _ dX6_begins_29 (by subst_vars; rfl)

set_option maxHeartbeats 4000000 in
set_option maxRecDepth 100000 in
theorem c_X6_sings_0 {B : zB} (hB : znn B = 95) (M : zM) (N : zN) (kd m : Int32) (k t : Nat) (x : Int32) (hk : k + 1 ≤ 30) (h1 : M 70 1 = nI k) (hv : zVc kd m t M) : zCi B (zg B M N) yX6_sings cX6_sings 3 (some .int) 1 [zref B 70, .int 0, .int x] (fun r g' => g' = zg B (zWo M k (vs_ps t x).2) N ∧ r = (vs_ps t x).1) := by
  refine zCi_of (by decide +kernel) (Nat.le_of_ble_eq_true rfl) .int rfl (fun _ _ _ => rfl) ?_
  intro X o kret
  show zW X B (zg B M N) 0 [(0, zref B 70), (1, .int 0), (2, .int x)] []
  refine z_iload_n (j := 1) o dX6_sings_0 rfl ?_
  refine z_lcase 1 (off := 35) (tgt := 36) o dX6_sings_1 (by decide) (by decide) (by decide) (fun c1 => ?_) (fun c1 => ?_)
  · exact absurd c1 (by decide)
  refine z_lcase 4 (off := 50) (tgt := 51) o dX6_sings_1 (by decide) (by decide) (by decide) (fun c2 => ?_) (fun c2 => ?_)
  · exact absurd c2 (by decide)
  refine z_lcase 6 (off := 65) (tgt := 66) o dX6_sings_1 (by decide) (by decide) (by decide) (fun c3 => ?_) (fun c3 => ?_)
  · exact absurd c3 (by decide)
  refine z_ldef (tgt := 75) o dX6_sings_1 (by decide) (by show Op.lookupswitch.offset [(1, 35), (4, 50), (6, 65)] _ _ = _; rw [lv_osw (a := 1) c1 rfl, lv_osw (a := 4) c2 rfl, lv_osw (a := 6) c3 rfl]; rfl) (by decide) ?_
  refine z_aload_n (j := 0) o dX6_sings_75 rfl ?_
  refine z_bipush (v := 10) o dX6_sings_76 (by decide) ?_
  refine z_callVv (As := [.int 10]) (n := 1) (st := []) o dX6_sings_78 (c_X6_begins hB M N (k) 10 (by omega) h1) zc_X6_45 (by decide) (i := 70) (by rw [hB]; exact zsh_lt rfl (by decide)) (zg_o rfl (by decide)) rfl rfl rfl (Nat.le_of_ble_eq_true rfl) (fun g5 p6 => ?_)
  cases p6
  refine z_iload_n (j := 2) o dX6_sings_81 rfl ?_
  refine z_aload_n (j := 0) o dX6_sings_82 rfl ?_
  refine zo_get (i := 70) o hB dX6_sings_83 zf_X6_29 rfl (by decide) (rfl) ?_
  refine zo_rw (y := nI t) ((hv.wo : zVc kd m t (zWo M k ([10]))).2.2) ?_
  refine z_iadd o dX6_sings_86 ?_
  exact kret _ _ _ _ dX6_sings_87 ⟨rfl, rfl⟩

set_option maxHeartbeats 4000000 in
set_option maxRecDepth 100000 in
theorem c_X6_sings_1 {B : zB} (hB : znn B = 95) (M : zM) (N : zN) (kd m : Int32) (k t : Nat) (x : Int32) (hk : k + 2 ≤ 30) (h1 : M 70 1 = nI k) (hv : zVc kd m t M) : zCi B (zg B M N) yX6_sings cX6_sings 3 (some .int) 2 [zref B 70, .int 1, .int x] (fun r g' => g' = zg B (zWo M k (vs_ns t x).2) N ∧ r = (vs_ns t x).1) := by
  refine zCi_of (by decide +kernel) (Nat.le_of_ble_eq_true rfl) .int rfl (fun _ _ _ => rfl) ?_
  intro X o kret
  show zW X B (zg B M N) 0 [(0, zref B 70), (1, .int 1), (2, .int x)] []
  refine z_iload_n (j := 1) o dX6_sings_0 rfl ?_
  refine z_lcase 1 (off := 35) (tgt := 36) o dX6_sings_1 (by decide) (by decide) (by decide) (fun c1 => ?_) (fun c1 => ?_)
  · refine z_aload_n (j := 0) o dX6_sings_36 rfl ?_
    refine z_bipush (v := 20) o dX6_sings_37 (by decide) ?_
    refine z_callVv (As := [.int 20]) (n := 1) (st := []) o dX6_sings_39 (c_X6_begins hB M N (k) 20 (by omega) h1) zc_X6_45 (by decide) (i := 70) (by rw [hB]; exact zsh_lt rfl (by decide)) (zg_o rfl (by decide)) rfl rfl rfl (Nat.le_of_ble_eq_true rfl) (fun g3 p4 => ?_)
    cases p4
    refine z_aload_n (j := 0) o dX6_sings_42 rfl ?_
    refine z_iconst (v := 0) o dX6_sings_43 (by decide) ?_
    refine z_iload_n (j := 2) o dX6_sings_44 rfl ?_
    refine z_callVi (As := [.int 0, .int x]) (n := 2) (st := []) o dX6_sings_45 (c_X6_sings_0 hB (zWo M k ([20])) N kd m (k + 1) t x (by omega) zWo_b hv.wo) zc_X6_32 (by decide) (i := 70) (by rw [hB]; exact zsh_lt rfl (by decide)) (zg_o rfl (by decide)) rfl rfl rfl (Nat.le_of_ble_eq_true rfl) (fun r5 g6 p7 => ?_)
    obtain ⟨rfl, rfl⟩ := p7
    rw [zWo_app (M := M) (l1 := [20]) (l2 := (vs_ps t x).2) (by first | rfl | simp)]
    refine z_iconst (v := 4) o dX6_sings_48 (by decide) ?_
    refine z_isub o dX6_sings_49 ?_
    exact kret _ _ _ _ dX6_sings_50 ⟨rfl, rfl⟩
  exact absurd rfl c1

set_option maxHeartbeats 4000000 in
set_option maxRecDepth 100000 in
theorem c_X6_sings_kd {B : zB} (hB : znn B = 95) (M : zM) (N : zN) (kd m : Int32) (k t : Nat) (x : Int32) (hk : k + 3 ≤ 30) (h1 : M 70 1 = nI k) (hv : zVc kd m t M) : zCi B (zg B M N) yX6_sings cX6_sings 3 (some .int) 3 [zref B 70, .int kd, .int x] (fun r g' => g' = zg B (zWo M k (vs_s kd t x).2) N ∧ r = (vs_s kd t x).1) := by
  refine zCi_of (by decide +kernel) (Nat.le_of_ble_eq_true rfl) .int rfl (fun _ _ _ => rfl) ?_
  intro X o kret
  show zW X B (zg B M N) 0 [(0, zref B 70), (1, .int kd), (2, .int x)] []
  refine z_iload_n (j := 1) o dX6_sings_0 rfl ?_
  refine z_lcase 1 (off := 35) (tgt := 36) o dX6_sings_1 (by decide) (by decide) (by decide) (fun c1 => ?_) (fun c1 => ?_)
  · refine z_aload_n (j := 0) o dX6_sings_36 rfl ?_
    refine z_bipush (v := 20) o dX6_sings_37 (by decide) ?_
    refine z_callVv (As := [.int 20]) (n := 1) (st := []) o dX6_sings_39 (c_X6_begins hB M N (k) 20 (by omega) h1) zc_X6_45 (by decide) (i := 70) (by rw [hB]; exact zsh_lt rfl (by decide)) (zg_o rfl (by decide)) rfl rfl rfl (Nat.le_of_ble_eq_true rfl) (fun g3 p4 => ?_)
    cases p4
    refine z_aload_n (j := 0) o dX6_sings_42 rfl ?_
    refine z_iconst (v := 0) o dX6_sings_43 (by decide) ?_
    refine z_iload_n (j := 2) o dX6_sings_44 rfl ?_
    refine z_callVi (As := [.int 0, .int x]) (n := 2) (st := []) o dX6_sings_45 (c_X6_sings_0 hB (zWo M k ([20])) N kd m (k + 1) t x (by omega) zWo_b hv.wo) zc_X6_32 (by decide) (i := 70) (by rw [hB]; exact zsh_lt rfl (by decide)) (zg_o rfl (by decide)) rfl rfl rfl (Nat.le_of_ble_eq_true rfl) (fun r5 g6 p7 => ?_)
    obtain ⟨rfl, rfl⟩ := p7
    rw [zWo_app (M := M) (l1 := [20]) (l2 := (vs_ps t x).2) (by first | rfl | simp)]
    refine z_iconst (v := 4) o dX6_sings_48 (by decide) ?_
    refine z_isub o dX6_sings_49 ?_
    exact kret _ _ _ _ dX6_sings_50 ⟨by unfold vs_s; rw [if_pos c1] <;> rfl, by unfold vs_s; rw [if_pos c1] <;> rfl⟩
  refine z_lcase 4 (off := 50) (tgt := 51) o dX6_sings_1 (by decide) (by decide) (by decide) (fun c8 => ?_) (fun c8 => ?_)
  · refine z_aload_n (j := 0) o dX6_sings_51 rfl ?_
    refine z_bipush (v := 50) o dX6_sings_52 (by decide) ?_
    refine z_callVv (As := [.int 50]) (n := 1) (st := []) o dX6_sings_54 (c_X6_begins hB M N (k) 50 (by omega) h1) zc_X6_45 (by decide) (i := 70) (by rw [hB]; exact zsh_lt rfl (by decide)) (zg_o rfl (by decide)) rfl rfl rfl (Nat.le_of_ble_eq_true rfl) (fun g10 p11 => ?_)
    cases p11
    refine z_aload_n (j := 0) o dX6_sings_57 rfl ?_
    refine z_iconst (v := 1) o dX6_sings_58 (by decide) ?_
    refine z_iload_n (j := 2) o dX6_sings_59 rfl ?_
    refine z_callVi (As := [.int 1, .int x]) (n := 2) (st := []) o dX6_sings_60 (c_X6_sings_1 hB (zWo M k ([50])) N kd m (k + 1) t x (by omega) zWo_b hv.wo) zc_X6_32 (by decide) (i := 70) (by rw [hB]; exact zsh_lt rfl (by decide)) (zg_o rfl (by decide)) rfl rfl rfl (Nat.le_of_ble_eq_true rfl) (fun r12 g13 p14 => ?_)
    obtain ⟨rfl, rfl⟩ := p14
    rw [zWo_app (M := M) (l1 := [50]) (l2 := (vs_ns t x).2) (by first | rfl | simp)]
    refine z_iconst (v := 3) o dX6_sings_63 (by decide) ?_
    refine z_imul o dX6_sings_64 ?_
    exact kret _ _ _ _ dX6_sings_65 ⟨by unfold vs_s; rw [if_neg c1, if_pos c8] <;> rfl, by unfold vs_s; rw [if_neg c1, if_pos c8] <;> rfl⟩
  refine z_lcase 6 (off := 65) (tgt := 66) o dX6_sings_1 (by decide) (by decide) (by decide) (fun c15 => ?_) (fun c15 => ?_)
  · refine z_aload_n (j := 0) o dX6_sings_66 rfl ?_
    refine z_bipush (v := 70) o dX6_sings_67 (by decide) ?_
    refine z_callVv (As := [.int 70]) (n := 1) (st := []) o dX6_sings_69 (c_X6_begins hB M N (k) 70 (by omega) h1) zc_X6_45 (by decide) (i := 70) (by rw [hB]; exact zsh_lt rfl (by decide)) (zg_o rfl (by decide)) rfl rfl rfl (Nat.le_of_ble_eq_true rfl) (fun g17 p18 => ?_)
    cases p18
    refine z_bipush (v := 9) o dX6_sings_72 (by decide) ?_
    exact kret _ _ _ _ dX6_sings_74 ⟨by unfold vs_s; rw [if_neg c1, if_neg c8, if_pos c15] <;> rfl, by unfold vs_s; rw [if_neg c1, if_neg c8, if_pos c15] <;> rfl⟩
  refine z_ldef (tgt := 75) o dX6_sings_1 (by decide) (by show Op.lookupswitch.offset [(1, 35), (4, 50), (6, 65)] _ _ = _; rw [lv_osw (a := 1) c1 rfl, lv_osw (a := 4) c8 rfl, lv_osw (a := 6) c15 rfl]; rfl) (by decide) ?_
  refine z_aload_n (j := 0) o dX6_sings_75 rfl ?_
  refine z_bipush (v := 10) o dX6_sings_76 (by decide) ?_
  refine z_callVv (As := [.int 10]) (n := 1) (st := []) o dX6_sings_78 (c_X6_begins hB M N (k) 10 (by omega) h1) zc_X6_45 (by decide) (i := 70) (by rw [hB]; exact zsh_lt rfl (by decide)) (zg_o rfl (by decide)) rfl rfl rfl (Nat.le_of_ble_eq_true rfl) (fun g20 p21 => ?_)
  cases p21
  refine z_iload_n (j := 2) o dX6_sings_81 rfl ?_
  refine z_aload_n (j := 0) o dX6_sings_82 rfl ?_
  refine zo_get (i := 70) o hB dX6_sings_83 zf_X6_29 rfl (by decide) (rfl) ?_
  refine zo_rw (y := nI t) ((hv.wo : zVc kd m t (zWo M k ([10]))).2.2) ?_
  refine z_iadd o dX6_sings_86 ?_
  exact kret _ _ _ _ dX6_sings_87 ⟨by unfold vs_s; rw [if_neg c1, if_neg c8, if_neg c15] <;> rfl, by unfold vs_s; rw [if_neg c1, if_neg c8, if_neg c15] <;> rfl⟩

set_option maxHeartbeats 4000000 in
set_option maxRecDepth 100000 in
theorem c_X6_leans_0 {B : zB} (hB : znn B = 95) (M : zM) (N : zN) (kd m : Int32) (k t : Nat) (x : Int32) (hk : k + 4 ≤ 30) (h1 : M 70 1 = nI k) (hv : zVc kd m t M) : zCi B (zg B M N) yX6_leans cX6_leans 3 (some .int) 4 [zref B 70, .int 0, .int x] (fun r g' => g' = zg B (zWo M k (vs_pl kd t x).2) N ∧ r = (vs_pl kd t x).1) := by
  refine zCi_of (by decide +kernel) (Nat.le_of_ble_eq_true rfl) .int rfl (fun _ _ _ => rfl) ?_
  intro X o kret
  show zW X B (zg B M N) 0 [(0, zref B 70), (1, .int 0), (2, .int x)] []
  refine z_iload_n (j := 1) o dX6_leans_0 rfl ?_
  refine z_tcase 2 (tgt := 36) o dX6_leans_1 (by decide) (by decide) rfl (by decide) (fun c1 => ?_) (fun c1 => ?_)
  · exact absurd c1 (by decide)
  refine z_tcase 3 (tgt := 84) o dX6_leans_1 (by decide) (by decide) rfl (by decide) (fun c2 => ?_) (fun c2 => ?_)
  · exact absurd c2 (by decide)
  refine z_tcase 4 (tgt := 84) o dX6_leans_1 (by decide) (by decide) rfl (by decide) (fun c3 => ?_) (fun c3 => ?_)
  · exact absurd c3 (by decide)
  refine z_tcase 5 (tgt := 51) o dX6_leans_1 (by decide) (by decide) rfl (by decide) (fun c4 => ?_) (fun c4 => ?_)
  · exact absurd c4 (by decide)
  refine z_tcase 6 (tgt := 66) o dX6_leans_1 (by decide) (by decide) rfl (by decide) (fun c5 => ?_) (fun c5 => ?_)
  · exact absurd c5 (by decide)
  refine z_tdef (tgt := 84) o dX6_leans_1 (by have := lv_neT (a := 2) c1 rfl; have := lv_neT (a := 3) c2 rfl; have := lv_neT (a := 4) c3 rfl; have := lv_neT (a := 5) c4 rfl; have := lv_neT (a := 6) c5 rfl; omega) (by decide) ?_
  refine z_aload_n (j := 0) o dX6_leans_84 rfl ?_
  refine z_bipush (v := 11) o dX6_leans_85 (by decide) ?_
  refine z_callVv (As := [.int 11]) (n := 1) (st := []) o dX6_leans_87 (c_X6_begins hB M N (k) 11 (by omega) h1) zc_X6_45 (by decide) (i := 70) (by rw [hB]; exact zsh_lt rfl (by decide)) (zg_o rfl (by decide)) rfl rfl rfl (Nat.le_of_ble_eq_true rfl) (fun g7 p8 => ?_)
  cases p8
  refine z_aload_n (j := 0) o dX6_leans_90 rfl ?_
  refine z_aload_n (j := 0) o dX6_leans_91 rfl ?_
  refine zo_get (i := 70) o hB dX6_leans_92 zf_X6_23 rfl (by decide) (rfl) ?_
  refine zo_rw (y := kd) ((hv.wo : zVc kd m t (zWo M k ([11]))).1) ?_
  refine z_iload_n (j := 2) o dX6_leans_95 rfl ?_
  refine z_callVi (As := [.int kd, .int x]) (n := 2) (st := []) o dX6_leans_96 (c_X6_sings_kd hB (zWo M k ([11])) N kd m (k + 1) t x (by omega) zWo_b hv.wo) zc_X6_32 (by decide) (i := 70) (by rw [hB]; exact zsh_lt rfl (by decide)) (zg_o rfl (by decide)) rfl rfl rfl (Nat.le_of_ble_eq_true rfl) (fun r9 g10 p11 => ?_)
  obtain ⟨rfl, rfl⟩ := p11
  rw [zWo_app (M := M) (l1 := [11]) (l2 := (vs_s kd t x).2) (by first | rfl | simp)]
  refine z_iconst (v := 2) o dX6_leans_99 (by decide) ?_
  refine z_imul o dX6_leans_100 ?_
  exact kret _ _ _ _ dX6_leans_101 ⟨rfl, rfl⟩

set_option maxHeartbeats 4000000 in
set_option maxRecDepth 100000 in
theorem c_X6_leans_2 {B : zB} (hB : znn B = 95) (M : zM) (N : zN) (kd m : Int32) (k t : Nat) (x : Int32) (hk : k + 5 ≤ 30) (h1 : M 70 1 = nI k) (hv : zVc kd m t M) : zCi B (zg B M N) yX6_leans cX6_leans 3 (some .int) 5 [zref B 70, .int 2, .int x] (fun r g' => g' = zg B (zWo M k (vs_ll kd t x).2) N ∧ r = (vs_ll kd t x).1) := by
  refine zCi_of (by decide +kernel) (Nat.le_of_ble_eq_true rfl) .int rfl (fun _ _ _ => rfl) ?_
  intro X o kret
  show zW X B (zg B M N) 0 [(0, zref B 70), (1, .int 2), (2, .int x)] []
  refine z_iload_n (j := 1) o dX6_leans_0 rfl ?_
  refine z_tcase 2 (tgt := 36) o dX6_leans_1 (by decide) (by decide) rfl (by decide) (fun c1 => ?_) (fun c1 => ?_)
  · refine z_aload_n (j := 0) o dX6_leans_36 rfl ?_
    refine z_bipush (v := 30) o dX6_leans_37 (by decide) ?_
    refine z_callVv (As := [.int 30]) (n := 1) (st := []) o dX6_leans_39 (c_X6_begins hB M N (k) 30 (by omega) h1) zc_X6_45 (by decide) (i := 70) (by rw [hB]; exact zsh_lt rfl (by decide)) (zg_o rfl (by decide)) rfl rfl rfl (Nat.le_of_ble_eq_true rfl) (fun g3 p4 => ?_)
    cases p4
    refine z_iconst (v := 0) o dX6_leans_42 (by decide) ?_
    refine z_aload_n (j := 0) o dX6_leans_43 rfl ?_
    refine z_iconst (v := 0) o dX6_leans_44 (by decide) ?_
    refine z_iload_n (j := 2) o dX6_leans_45 rfl ?_
    refine z_callVi (As := [.int 0, .int x]) (n := 2) (st := [.int 0]) o dX6_leans_46 (c_X6_leans_0 hB (zWo M k ([30])) N kd m (k + 1) t x (by omega) zWo_b hv.wo) zc_X6_36 (by decide) (i := 70) (by rw [hB]; exact zsh_lt rfl (by decide)) (zg_o rfl (by decide)) rfl rfl rfl (Nat.le_of_ble_eq_true rfl) (fun r5 g6 p7 => ?_)
    obtain ⟨rfl, rfl⟩ := p7
    rw [zWo_app (M := M) (l1 := [30]) (l2 := (vs_pl kd t x).2) (by first | rfl | simp)]
    refine z_isub o dX6_leans_49 ?_
    exact kret _ _ _ _ dX6_leans_50 ⟨rfl, Int32.zero_sub _⟩
  exact absurd rfl c1

set_option maxHeartbeats 4000000 in
set_option maxRecDepth 100000 in
theorem c_X6_leans_kd {B : zB} (hB : znn B = 95) (M : zM) (N : zN) (kd m : Int32) (k t : Nat) (x : Int32) (hk : k + 6 ≤ 30) (h1 : M 70 1 = nI k) (hv : zVc kd m t M) : zCi B (zg B M N) yX6_leans cX6_leans 3 (some .int) 6 [zref B 70, .int kd, .int x] (fun r g' => g' = zg B (zWo M k (lw_l kd kd m t x).2) N ∧ r = (lw_l kd kd m t x).1) := by
  refine zCi_of (by decide +kernel) (Nat.le_of_ble_eq_true rfl) .int rfl (fun _ _ _ => rfl) ?_
  intro X o kret
  show zW X B (zg B M N) 0 [(0, zref B 70), (1, .int kd), (2, .int x)] []
  refine z_iload_n (j := 1) o dX6_leans_0 rfl ?_
  refine z_tcase 2 (tgt := 36) o dX6_leans_1 (by decide) (by decide) rfl (by decide) (fun c1 => ?_) (fun c1 => ?_)
  · refine z_aload_n (j := 0) o dX6_leans_36 rfl ?_
    refine z_bipush (v := 30) o dX6_leans_37 (by decide) ?_
    refine z_callVv (As := [.int 30]) (n := 1) (st := []) o dX6_leans_39 (c_X6_begins hB M N (k) 30 (by omega) h1) zc_X6_45 (by decide) (i := 70) (by rw [hB]; exact zsh_lt rfl (by decide)) (zg_o rfl (by decide)) rfl rfl rfl (Nat.le_of_ble_eq_true rfl) (fun g3 p4 => ?_)
    cases p4
    refine z_iconst (v := 0) o dX6_leans_42 (by decide) ?_
    refine z_aload_n (j := 0) o dX6_leans_43 rfl ?_
    refine z_iconst (v := 0) o dX6_leans_44 (by decide) ?_
    refine z_iload_n (j := 2) o dX6_leans_45 rfl ?_
    refine z_callVi (As := [.int 0, .int x]) (n := 2) (st := [.int 0]) o dX6_leans_46 (c_X6_leans_0 hB (zWo M k ([30])) N kd m (k + 1) t x (by omega) zWo_b hv.wo) zc_X6_36 (by decide) (i := 70) (by rw [hB]; exact zsh_lt rfl (by decide)) (zg_o rfl (by decide)) rfl rfl rfl (Nat.le_of_ble_eq_true rfl) (fun r5 g6 p7 => ?_)
    obtain ⟨rfl, rfl⟩ := p7
    rw [zWo_app (M := M) (l1 := [30]) (l2 := (vs_pl kd t x).2) (by first | rfl | simp)]
    refine z_isub o dX6_leans_49 ?_
    exact kret _ _ _ _ dX6_leans_50 ⟨by unfold lw_l; rw [if_pos c1] <;> rfl, by unfold lw_l; rw [if_pos c1] <;> first | rfl | exact Int32.zero_sub _⟩
  refine z_tcase 3 (tgt := 84) o dX6_leans_1 (by decide) (by decide) rfl (by decide) (fun c8 => ?_) (fun c8 => ?_)
  · refine z_aload_n (j := 0) o dX6_leans_84 rfl ?_
    refine z_bipush (v := 11) o dX6_leans_85 (by decide) ?_
    refine z_callVv (As := [.int 11]) (n := 1) (st := []) o dX6_leans_87 (c_X6_begins hB M N (k) 11 (by omega) h1) zc_X6_45 (by decide) (i := 70) (by rw [hB]; exact zsh_lt rfl (by decide)) (zg_o rfl (by decide)) rfl rfl rfl (Nat.le_of_ble_eq_true rfl) (fun g10 p11 => ?_)
    cases p11
    refine z_aload_n (j := 0) o dX6_leans_90 rfl ?_
    refine z_aload_n (j := 0) o dX6_leans_91 rfl ?_
    refine zo_get (i := 70) o hB dX6_leans_92 zf_X6_23 rfl (by decide) (rfl) ?_
    refine zo_rw (y := kd) ((hv.wo : zVc kd m t (zWo M k ([11]))).1) ?_
    refine z_iload_n (j := 2) o dX6_leans_95 rfl ?_
    refine z_callVi (As := [.int kd, .int x]) (n := 2) (st := []) o dX6_leans_96 (c_X6_sings_kd hB (zWo M k ([11])) N kd m (k + 1) t x (by omega) zWo_b hv.wo) zc_X6_32 (by decide) (i := 70) (by rw [hB]; exact zsh_lt rfl (by decide)) (zg_o rfl (by decide)) rfl rfl rfl (Nat.le_of_ble_eq_true rfl) (fun r12 g13 p14 => ?_)
    obtain ⟨rfl, rfl⟩ := p14
    rw [zWo_app (M := M) (l1 := [11]) (l2 := (vs_s kd t x).2) (by first | rfl | simp)]
    refine z_iconst (v := 2) o dX6_leans_99 (by decide) ?_
    refine z_imul o dX6_leans_100 ?_
    exact kret _ _ _ _ dX6_leans_101 ⟨by unfold lw_l; rw [if_neg (by rw [c8]; decide), if_neg (by rw [c8]; decide), if_neg (by rw [c8]; decide)] <;> rfl, by unfold lw_l; rw [if_neg (by rw [c8]; decide), if_neg (by rw [c8]; decide), if_neg (by rw [c8]; decide)] <;> first | rfl | exact Int32.zero_sub _⟩
  refine z_tcase 4 (tgt := 84) o dX6_leans_1 (by decide) (by decide) rfl (by decide) (fun c15 => ?_) (fun c15 => ?_)
  · refine z_aload_n (j := 0) o dX6_leans_84 rfl ?_
    refine z_bipush (v := 11) o dX6_leans_85 (by decide) ?_
    refine z_callVv (As := [.int 11]) (n := 1) (st := []) o dX6_leans_87 (c_X6_begins hB M N (k) 11 (by omega) h1) zc_X6_45 (by decide) (i := 70) (by rw [hB]; exact zsh_lt rfl (by decide)) (zg_o rfl (by decide)) rfl rfl rfl (Nat.le_of_ble_eq_true rfl) (fun g17 p18 => ?_)
    cases p18
    refine z_aload_n (j := 0) o dX6_leans_90 rfl ?_
    refine z_aload_n (j := 0) o dX6_leans_91 rfl ?_
    refine zo_get (i := 70) o hB dX6_leans_92 zf_X6_23 rfl (by decide) (rfl) ?_
    refine zo_rw (y := kd) ((hv.wo : zVc kd m t (zWo M k ([11]))).1) ?_
    refine z_iload_n (j := 2) o dX6_leans_95 rfl ?_
    refine z_callVi (As := [.int kd, .int x]) (n := 2) (st := []) o dX6_leans_96 (c_X6_sings_kd hB (zWo M k ([11])) N kd m (k + 1) t x (by omega) zWo_b hv.wo) zc_X6_32 (by decide) (i := 70) (by rw [hB]; exact zsh_lt rfl (by decide)) (zg_o rfl (by decide)) rfl rfl rfl (Nat.le_of_ble_eq_true rfl) (fun r19 g20 p21 => ?_)
    obtain ⟨rfl, rfl⟩ := p21
    rw [zWo_app (M := M) (l1 := [11]) (l2 := (vs_s kd t x).2) (by first | rfl | simp)]
    refine z_iconst (v := 2) o dX6_leans_99 (by decide) ?_
    refine z_imul o dX6_leans_100 ?_
    exact kret _ _ _ _ dX6_leans_101 ⟨by unfold lw_l; rw [if_neg (by rw [c15]; decide), if_neg (by rw [c15]; decide), if_neg (by rw [c15]; decide)] <;> rfl, by unfold lw_l; rw [if_neg (by rw [c15]; decide), if_neg (by rw [c15]; decide), if_neg (by rw [c15]; decide)] <;> first | rfl | exact Int32.zero_sub _⟩
  refine z_tcase 5 (tgt := 51) o dX6_leans_1 (by decide) (by decide) rfl (by decide) (fun c22 => ?_) (fun c22 => ?_)
  · refine z_aload_n (j := 0) o dX6_leans_51 rfl ?_
    refine z_bipush (v := 60) o dX6_leans_52 (by decide) ?_
    refine z_callVv (As := [.int 60]) (n := 1) (st := []) o dX6_leans_54 (c_X6_begins hB M N (k) 60 (by omega) h1) zc_X6_45 (by decide) (i := 70) (by rw [hB]; exact zsh_lt rfl (by decide)) (zg_o rfl (by decide)) rfl rfl rfl (Nat.le_of_ble_eq_true rfl) (fun g24 p25 => ?_)
    cases p25
    refine z_aload_n (j := 0) o dX6_leans_57 rfl ?_
    refine z_iconst (v := 2) o dX6_leans_58 (by decide) ?_
    refine z_iload_n (j := 2) o dX6_leans_59 rfl ?_
    refine z_iconst (v := 1) o dX6_leans_60 (by decide) ?_
    refine z_iadd o dX6_leans_61 ?_
    refine z_callVi (As := [.int 2, .int (x + 1)]) (n := 2) (st := []) o dX6_leans_62 (c_X6_leans_2 hB (zWo M k ([60])) N kd m (k + 1) t (x + 1) (by omega) zWo_b hv.wo) zc_X6_36 (by decide) (i := 70) (by rw [hB]; exact zsh_lt rfl (by decide)) (zg_o rfl (by decide)) rfl rfl rfl (Nat.le_of_ble_eq_true rfl) (fun r26 g27 p28 => ?_)
    obtain ⟨rfl, rfl⟩ := p28
    rw [zWo_app (M := M) (l1 := [60]) (l2 := (vs_ll kd t (x + 1)).2) (by first | rfl | simp)]
    exact kret _ _ _ _ dX6_leans_65 ⟨by unfold lw_l; rw [if_neg c1, if_pos c22] <;> rfl, by unfold lw_l; rw [if_neg c1, if_pos c22] <;> first | rfl | exact Int32.zero_sub _⟩
  refine z_tcase 6 (tgt := 66) o dX6_leans_1 (by decide) (by decide) rfl (by decide) (fun c29 => ?_) (fun c29 => ?_)
  · refine z_aload_n (j := 0) o dX6_leans_66 rfl ?_
    refine z_bipush (v := 71) o dX6_leans_67 (by decide) ?_
    refine z_callVv (As := [.int 71]) (n := 1) (st := []) o dX6_leans_69 (c_X6_begins hB M N (k) 71 (by omega) h1) zc_X6_45 (by decide) (i := 70) (by rw [hB]; exact zsh_lt rfl (by decide)) (zg_o rfl (by decide)) rfl rfl rfl (Nat.le_of_ble_eq_true rfl) (fun g31 p32 => ?_)
    cases p32
    refine z_aload_n (j := 0) o dX6_leans_72 rfl ?_
    refine z_iconst (v := 0) o dX6_leans_73 (by decide) ?_
    refine z_iload_n (j := 2) o dX6_leans_74 rfl ?_
    refine z_callVi (As := [.int 0, .int x]) (n := 2) (st := []) o dX6_leans_75 (c_X6_leans_0 hB (zWo M k ([71])) N kd m (k + 1) t x (by omega) zWo_b hv.wo) zc_X6_36 (by decide) (i := 70) (by rw [hB]; exact zsh_lt rfl (by decide)) (zg_o rfl (by decide)) rfl rfl rfl (Nat.le_of_ble_eq_true rfl) (fun r33 g34 p35 => ?_)
    obtain ⟨rfl, rfl⟩ := p35
    rw [zWo_app (M := M) (l1 := [71]) (l2 := (vs_pl kd t x).2) (by first | rfl | simp)]
    refine z_aload_n (j := 0) o dX6_leans_78 rfl ?_
    refine zo_get (i := 70) o hB dX6_leans_79 zf_X6_26 rfl (by decide) (rfl) ?_
    refine zo_rw (y := m) ((hv.wo : zVc kd m t (zWo M k ([71] ++ ((vs_pl kd t x).2)))).2.1) ?_
    refine z_iadd o dX6_leans_82 ?_
    exact kret _ _ _ _ dX6_leans_83 ⟨by unfold lw_l; rw [if_neg c1, if_neg c22, if_pos c29] <;> rfl, by unfold lw_l; rw [if_neg c1, if_neg c22, if_pos c29] <;> first | rfl | exact Int32.zero_sub _⟩
  refine z_tdef (tgt := 84) o dX6_leans_1 (by have := lv_neT (a := 2) c1 rfl; have := lv_neT (a := 3) c8 rfl; have := lv_neT (a := 4) c15 rfl; have := lv_neT (a := 5) c22 rfl; have := lv_neT (a := 6) c29 rfl; omega) (by decide) ?_
  refine z_aload_n (j := 0) o dX6_leans_84 rfl ?_
  refine z_bipush (v := 11) o dX6_leans_85 (by decide) ?_
  refine z_callVv (As := [.int 11]) (n := 1) (st := []) o dX6_leans_87 (c_X6_begins hB M N (k) 11 (by omega) h1) zc_X6_45 (by decide) (i := 70) (by rw [hB]; exact zsh_lt rfl (by decide)) (zg_o rfl (by decide)) rfl rfl rfl (Nat.le_of_ble_eq_true rfl) (fun g37 p38 => ?_)
  cases p38
  refine z_aload_n (j := 0) o dX6_leans_90 rfl ?_
  refine z_aload_n (j := 0) o dX6_leans_91 rfl ?_
  refine zo_get (i := 70) o hB dX6_leans_92 zf_X6_23 rfl (by decide) (rfl) ?_
  refine zo_rw (y := kd) ((hv.wo : zVc kd m t (zWo M k ([11]))).1) ?_
  refine z_iload_n (j := 2) o dX6_leans_95 rfl ?_
  refine z_callVi (As := [.int kd, .int x]) (n := 2) (st := []) o dX6_leans_96 (c_X6_sings_kd hB (zWo M k ([11])) N kd m (k + 1) t x (by omega) zWo_b hv.wo) zc_X6_32 (by decide) (i := 70) (by rw [hB]; exact zsh_lt rfl (by decide)) (zg_o rfl (by decide)) rfl rfl rfl (Nat.le_of_ble_eq_true rfl) (fun r39 g40 p41 => ?_)
  obtain ⟨rfl, rfl⟩ := p41
  rw [zWo_app (M := M) (l1 := [11]) (l2 := (vs_s kd t x).2) (by first | rfl | simp)]
  refine z_iconst (v := 2) o dX6_leans_99 (by decide) ?_
  refine z_imul o dX6_leans_100 ?_
  exact kret _ _ _ _ dX6_leans_101 ⟨by unfold lw_l; rw [if_neg c1, if_neg c22, if_neg c29] <;> rfl, by unfold lw_l; rw [if_neg c1, if_neg c22, if_neg c29] <;> first | rfl | exact Int32.zero_sub _⟩

set_option maxHeartbeats 4000000 in
set_option maxRecDepth 100000 in
theorem c_X6_sprouts_0 {B : zB} (hB : znn B = 95) (M : zM) (N : zN) (kd m : Int32) (k t : Nat) (x : Int32) (hk : k + 7 ≤ 30) (h1 : M 70 1 = nI k) (hv : zVc kd m t M) : zCi B (zg B M N) yX6_sprouts cX6_sprouts 3 (some .int) 7 [zref B 70, .int 0, .int x] (fun r g' => g' = zg B (zWo M k (vs_pr kd m t x).2) N ∧ r = (vs_pr kd m t x).1) := by
  refine zCi_of (by decide +kernel) (Nat.le_of_ble_eq_true rfl) .int rfl (fun _ _ _ => rfl) ?_
  intro X o kret
  show zW X B (zg B M N) 0 [(0, zref B 70), (1, .int 0), (2, .int x)] []
  refine z_iload_n (j := 1) o dX6_sprouts_0 rfl ?_
  refine z_lcase 3 (off := 27) (tgt := 28) o dX6_sprouts_1 (by decide) (by decide) (by decide) (fun c1 => ?_) (fun c1 => ?_)
  · exact absurd c1 (by decide)
  refine z_lcase 4 (off := 42) (tgt := 43) o dX6_sprouts_1 (by decide) (by decide) (by decide) (fun c2 => ?_) (fun c2 => ?_)
  · exact absurd c2 (by decide)
  refine z_ldef (tgt := 61) o dX6_sprouts_1 (by decide) (by show Op.lookupswitch.offset [(3, 27), (4, 42)] _ _ = _; rw [lv_osw (a := 3) c1 rfl, lv_osw (a := 4) c2 rfl]; rfl) (by decide) ?_
  refine z_aload_n (j := 0) o dX6_sprouts_61 rfl ?_
  refine z_bipush (v := 12) o dX6_sprouts_62 (by decide) ?_
  refine z_callVv (As := [.int 12]) (n := 1) (st := []) o dX6_sprouts_64 (c_X6_begins hB M N (k) 12 (by omega) h1) zc_X6_45 (by decide) (i := 70) (by rw [hB]; exact zsh_lt rfl (by decide)) (zg_o rfl (by decide)) rfl rfl rfl (Nat.le_of_ble_eq_true rfl) (fun g4 p5 => ?_)
  cases p5
  refine z_aload_n (j := 0) o dX6_sprouts_67 rfl ?_
  refine z_aload_n (j := 0) o dX6_sprouts_68 rfl ?_
  refine zo_get (i := 70) o hB dX6_sprouts_69 zf_X6_23 rfl (by decide) (rfl) ?_
  refine zo_rw (y := kd) ((hv.wo : zVc kd m t (zWo M k ([12]))).1) ?_
  refine z_iload_n (j := 2) o dX6_sprouts_72 rfl ?_
  refine z_callVi (As := [.int kd, .int x]) (n := 2) (st := []) o dX6_sprouts_73 (c_X6_leans_kd hB (zWo M k ([12])) N kd m (k + 1) t x (by omega) zWo_b hv.wo) zc_X6_36 (by decide) (i := 70) (by rw [hB]; exact zsh_lt rfl (by decide)) (zg_o rfl (by decide)) rfl rfl rfl (Nat.le_of_ble_eq_true rfl) (fun r6 g7 p8 => ?_)
  obtain ⟨rfl, rfl⟩ := p8
  rw [zWo_app (M := M) (l1 := [12]) (l2 := (lw_l kd kd m t x).2) (by first | rfl | simp)]
  refine z_aload_n (j := 0) o dX6_sprouts_76 rfl ?_
  refine zo_get (i := 70) o hB dX6_sprouts_77 zf_X6_26 rfl (by decide) (rfl) ?_
  refine zo_rw (y := m) ((hv.wo : zVc kd m t (zWo M k ([12] ++ ((lw_l kd kd m t x).2)))).2.1) ?_
  refine z_isub o dX6_sprouts_80 ?_
  exact kret _ _ _ _ dX6_sprouts_81 ⟨rfl, rfl⟩

set_option maxHeartbeats 4000000 in
set_option maxRecDepth 100000 in
theorem c_X6_sprouts_1 {B : zB} (hB : znn B = 95) (M : zM) (N : zN) (kd m : Int32) (k t : Nat) (x : Int32) (hk : k + 7 ≤ 30) (h1 : M 70 1 = nI k) (hv : zVc kd m t M) : zCi B (zg B M N) yX6_sprouts cX6_sprouts 3 (some .int) 7 [zref B 70, .int 1, .int x] (fun r g' => g' = zg B (zWo M k (vs_pr kd m t x).2) N ∧ r = (vs_pr kd m t x).1) := by
  refine zCi_of (by decide +kernel) (Nat.le_of_ble_eq_true rfl) .int rfl (fun _ _ _ => rfl) ?_
  intro X o kret
  show zW X B (zg B M N) 0 [(0, zref B 70), (1, .int 1), (2, .int x)] []
  refine z_iload_n (j := 1) o dX6_sprouts_0 rfl ?_
  refine z_lcase 3 (off := 27) (tgt := 28) o dX6_sprouts_1 (by decide) (by decide) (by decide) (fun c1 => ?_) (fun c1 => ?_)
  · exact absurd c1 (by decide)
  refine z_lcase 4 (off := 42) (tgt := 43) o dX6_sprouts_1 (by decide) (by decide) (by decide) (fun c2 => ?_) (fun c2 => ?_)
  · exact absurd c2 (by decide)
  refine z_ldef (tgt := 61) o dX6_sprouts_1 (by decide) (by show Op.lookupswitch.offset [(3, 27), (4, 42)] _ _ = _; rw [lv_osw (a := 3) c1 rfl, lv_osw (a := 4) c2 rfl]; rfl) (by decide) ?_
  refine z_aload_n (j := 0) o dX6_sprouts_61 rfl ?_
  refine z_bipush (v := 12) o dX6_sprouts_62 (by decide) ?_
  refine z_callVv (As := [.int 12]) (n := 1) (st := []) o dX6_sprouts_64 (c_X6_begins hB M N (k) 12 (by omega) h1) zc_X6_45 (by decide) (i := 70) (by rw [hB]; exact zsh_lt rfl (by decide)) (zg_o rfl (by decide)) rfl rfl rfl (Nat.le_of_ble_eq_true rfl) (fun g4 p5 => ?_)
  cases p5
  refine z_aload_n (j := 0) o dX6_sprouts_67 rfl ?_
  refine z_aload_n (j := 0) o dX6_sprouts_68 rfl ?_
  refine zo_get (i := 70) o hB dX6_sprouts_69 zf_X6_23 rfl (by decide) (rfl) ?_
  refine zo_rw (y := kd) ((hv.wo : zVc kd m t (zWo M k ([12]))).1) ?_
  refine z_iload_n (j := 2) o dX6_sprouts_72 rfl ?_
  refine z_callVi (As := [.int kd, .int x]) (n := 2) (st := []) o dX6_sprouts_73 (c_X6_leans_kd hB (zWo M k ([12])) N kd m (k + 1) t x (by omega) zWo_b hv.wo) zc_X6_36 (by decide) (i := 70) (by rw [hB]; exact zsh_lt rfl (by decide)) (zg_o rfl (by decide)) rfl rfl rfl (Nat.le_of_ble_eq_true rfl) (fun r6 g7 p8 => ?_)
  obtain ⟨rfl, rfl⟩ := p8
  rw [zWo_app (M := M) (l1 := [12]) (l2 := (lw_l kd kd m t x).2) (by first | rfl | simp)]
  refine z_aload_n (j := 0) o dX6_sprouts_76 rfl ?_
  refine zo_get (i := 70) o hB dX6_sprouts_77 zf_X6_26 rfl (by decide) (rfl) ?_
  refine zo_rw (y := m) ((hv.wo : zVc kd m t (zWo M k ([12] ++ ((lw_l kd kd m t x).2)))).2.1) ?_
  refine z_isub o dX6_sprouts_80 ?_
  exact kret _ _ _ _ dX6_sprouts_81 ⟨rfl, rfl⟩

set_option maxHeartbeats 4000000 in
set_option maxRecDepth 100000 in
theorem c_X6_sprouts_kd {B : zB} (hB : znn B = 95) (M : zM) (N : zN) (kd m : Int32) (k t : Nat) (x : Int32) (hk : k + 8 ≤ 30) (h1 : M 70 1 = nI k) (hv : zVc kd m t M) : zCi B (zg B M N) yX6_sprouts cX6_sprouts 3 (some .int) 8 [zref B 70, .int kd, .int x] (fun r g' => g' = zg B (zWo M k (lw_r kd kd m t x).2) N ∧ r = (lw_r kd kd m t x).1) := by
  refine zCi_of (by decide +kernel) (Nat.le_of_ble_eq_true rfl) .int rfl (fun _ _ _ => rfl) ?_
  intro X o kret
  show zW X B (zg B M N) 0 [(0, zref B 70), (1, .int kd), (2, .int x)] []
  refine z_iload_n (j := 1) o dX6_sprouts_0 rfl ?_
  refine z_lcase 3 (off := 27) (tgt := 28) o dX6_sprouts_1 (by decide) (by decide) (by decide) (fun c1 => ?_) (fun c1 => ?_)
  · refine z_aload_n (j := 0) o dX6_sprouts_28 rfl ?_
    refine z_bipush (v := 40) o dX6_sprouts_29 (by decide) ?_
    refine z_callVv (As := [.int 40]) (n := 1) (st := []) o dX6_sprouts_31 (c_X6_begins hB M N (k) 40 (by omega) h1) zc_X6_45 (by decide) (i := 70) (by rw [hB]; exact zsh_lt rfl (by decide)) (zg_o rfl (by decide)) rfl rfl rfl (Nat.le_of_ble_eq_true rfl) (fun g3 p4 => ?_)
    cases p4
    refine z_aload_n (j := 0) o dX6_sprouts_34 rfl ?_
    refine z_iconst (v := 0) o dX6_sprouts_35 (by decide) ?_
    refine z_iload_n (j := 2) o dX6_sprouts_36 rfl ?_
    refine z_iconst (v := 2) o dX6_sprouts_37 (by decide) ?_
    refine z_idiv o dX6_sprouts_38 (by decide) ?_
    refine z_callVi (As := [.int 0, .int (x / 2)]) (n := 2) (st := []) o dX6_sprouts_39 (c_X6_sprouts_0 hB (zWo M k ([40])) N kd m (k + 1) t (x / 2) (by omega) zWo_b hv.wo) zc_X6_39 (by decide) (i := 70) (by rw [hB]; exact zsh_lt rfl (by decide)) (zg_o rfl (by decide)) rfl rfl rfl (Nat.le_of_ble_eq_true rfl) (fun r5 g6 p7 => ?_)
    obtain ⟨rfl, rfl⟩ := p7
    rw [zWo_app (M := M) (l1 := [40]) (l2 := (vs_pr kd m t (x / 2)).2) (by first | rfl | simp)]
    exact kret _ _ _ _ dX6_sprouts_42 ⟨by unfold lw_r; rw [if_pos c1] <;> rfl, by unfold lw_r; rw [if_pos c1] <;> rfl⟩
  refine z_lcase 4 (off := 42) (tgt := 43) o dX6_sprouts_1 (by decide) (by decide) (by decide) (fun c8 => ?_) (fun c8 => ?_)
  · refine z_aload_n (j := 0) o dX6_sprouts_43 rfl ?_
    refine z_bipush (v := 51) o dX6_sprouts_44 (by decide) ?_
    refine z_callVv (As := [.int 51]) (n := 1) (st := []) o dX6_sprouts_46 (c_X6_begins hB M N (k) 51 (by omega) h1) zc_X6_45 (by decide) (i := 70) (by rw [hB]; exact zsh_lt rfl (by decide)) (zg_o rfl (by decide)) rfl rfl rfl (Nat.le_of_ble_eq_true rfl) (fun g10 p11 => ?_)
    cases p11
    refine z_aload_n (j := 0) o dX6_sprouts_49 rfl ?_
    refine z_iconst (v := 1) o dX6_sprouts_50 (by decide) ?_
    refine z_iload_n (j := 2) o dX6_sprouts_51 rfl ?_
    refine z_callVi (As := [.int 1, .int x]) (n := 2) (st := []) o dX6_sprouts_52 (c_X6_sprouts_1 hB (zWo M k ([51])) N kd m (k + 1) t x (by omega) zWo_b hv.wo) zc_X6_39 (by decide) (i := 70) (by rw [hB]; exact zsh_lt rfl (by decide)) (zg_o rfl (by decide)) rfl rfl rfl (Nat.le_of_ble_eq_true rfl) (fun r12 g13 p14 => ?_)
    obtain ⟨rfl, rfl⟩ := p14
    rw [zWo_app (M := M) (l1 := [51]) (l2 := (vs_pr kd m t x).2) (by first | rfl | simp)]
    refine z_aload_n (j := 0) o dX6_sprouts_55 rfl ?_
    refine zo_get (i := 70) o hB dX6_sprouts_56 zf_X6_29 rfl (by decide) (rfl) ?_
    refine zo_rw (y := nI t) ((hv.wo : zVc kd m t (zWo M k ([51] ++ ((vs_pr kd m t x).2)))).2.2) ?_
    refine z_ixor o dX6_sprouts_59 ?_
    exact kret _ _ _ _ dX6_sprouts_60 ⟨by unfold lw_r; rw [if_neg c1, if_pos c8] <;> rfl, by unfold lw_r; rw [if_neg c1, if_pos c8] <;> rfl⟩
  refine z_ldef (tgt := 61) o dX6_sprouts_1 (by decide) (by show Op.lookupswitch.offset [(3, 27), (4, 42)] _ _ = _; rw [lv_osw (a := 3) c1 rfl, lv_osw (a := 4) c8 rfl]; rfl) (by decide) ?_
  refine z_aload_n (j := 0) o dX6_sprouts_61 rfl ?_
  refine z_bipush (v := 12) o dX6_sprouts_62 (by decide) ?_
  refine z_callVv (As := [.int 12]) (n := 1) (st := []) o dX6_sprouts_64 (c_X6_begins hB M N (k) 12 (by omega) h1) zc_X6_45 (by decide) (i := 70) (by rw [hB]; exact zsh_lt rfl (by decide)) (zg_o rfl (by decide)) rfl rfl rfl (Nat.le_of_ble_eq_true rfl) (fun g16 p17 => ?_)
  cases p17
  refine z_aload_n (j := 0) o dX6_sprouts_67 rfl ?_
  refine z_aload_n (j := 0) o dX6_sprouts_68 rfl ?_
  refine zo_get (i := 70) o hB dX6_sprouts_69 zf_X6_23 rfl (by decide) (rfl) ?_
  refine zo_rw (y := kd) ((hv.wo : zVc kd m t (zWo M k ([12]))).1) ?_
  refine z_iload_n (j := 2) o dX6_sprouts_72 rfl ?_
  refine z_callVi (As := [.int kd, .int x]) (n := 2) (st := []) o dX6_sprouts_73 (c_X6_leans_kd hB (zWo M k ([12])) N kd m (k + 1) t x (by omega) zWo_b hv.wo) zc_X6_36 (by decide) (i := 70) (by rw [hB]; exact zsh_lt rfl (by decide)) (zg_o rfl (by decide)) rfl rfl rfl (Nat.le_of_ble_eq_true rfl) (fun r18 g19 p20 => ?_)
  obtain ⟨rfl, rfl⟩ := p20
  rw [zWo_app (M := M) (l1 := [12]) (l2 := (lw_l kd kd m t x).2) (by first | rfl | simp)]
  refine z_aload_n (j := 0) o dX6_sprouts_76 rfl ?_
  refine zo_get (i := 70) o hB dX6_sprouts_77 zf_X6_26 rfl (by decide) (rfl) ?_
  refine zo_rw (y := m) ((hv.wo : zVc kd m t (zWo M k ([12] ++ ((lw_l kd kd m t x).2)))).2.1) ?_
  refine z_isub o dX6_sprouts_80 ?_
  exact kret _ _ _ _ dX6_sprouts_81 ⟨by unfold lw_r; rw [if_neg c1, if_neg c8] <;> rfl, by unfold lw_r; rw [if_neg c1, if_neg c8] <;> rfl⟩

