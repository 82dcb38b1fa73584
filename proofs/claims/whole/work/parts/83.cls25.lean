/-! the class: voices (2) -/
set_option maxHeartbeats 4000000 in
set_option maxRecDepth 100000 in
theorem c_X6_parts_0 {B : zB} (hB : znn B = 95) (M : zM) (N : zN) (kd m : Int32) (k t : Nat) (x : Int32) (hk : k + 1 ≤ 30) (h1 : M 70 1 = nI k) (hv : zVc kd m t M) : zCi B (zg B M N) yX6_parts cX6_parts 5 (some .int) 1 [zref B 70, .int 0, .int x] (fun r g' => g' = zg B (zu (zWo M k [13]) 70 2 (if vs_by m t = 0 then 1 else 0)) N ∧ r = vs_pp m t x) := by
  refine zCi_of (by decide +kernel) (Nat.le_of_ble_eq_true rfl) .int rfl (fun _ _ _ => rfl) ?_
  intro X o kret
  show zW X B (zg B M N) 0 [(0, zref B 70), (1, .int 0), (2, .int x)] []
  refine z_iload_n (j := 1) o dX6_parts_0 rfl ?_
  refine z_lcase 1 (off := 27) (tgt := 28) o dX6_parts_1 (by decide) (by decide) (by decide) (fun c1 => ?_) (fun c1 => ?_)
  · exact absurd c1 (by decide)
  refine z_lcase 4 (off := 27) (tgt := 28) o dX6_parts_1 (by decide) (by decide) (by decide) (fun c2 => ?_) (fun c2 => ?_)
  · exact absurd c2 (by decide)
  refine z_ldef (tgt := 64) o dX6_parts_1 (by decide) (by show Op.lookupswitch.offset [(1, 27), (4, 27)] _ _ = _; rw [lv_osw (a := 1) c1 rfl, lv_osw (a := 4) c2 rfl]; rfl) (by decide) ?_
  refine z_aload_n (j := 0) o dX6_parts_64 rfl ?_
  refine z_bipush (v := 13) o dX6_parts_65 (by decide) ?_
  refine z_callVv (As := [.int 13]) (n := 1) (st := []) o dX6_parts_67 (c_X6_begins hB M N (k) 13 (by omega) h1) zc_X6_45 (by decide) (i := 70) (by rw [hB]; exact zsh_lt rfl (by decide)) (zg_o rfl (by decide)) rfl rfl rfl (Nat.le_of_ble_eq_true rfl) (fun g4 p5 => ?_)
  cases p5
  refine z_aload_n (j := 0) o dX6_parts_70 rfl ?_
  refine zo_get (i := 70) o hB dX6_parts_71 zf_X6_26 rfl (by decide) (rfl) ?_
  refine zo_rw (y := m) ((hv.wo : zVc kd m t (zWo M k ([13]))).2.1) ?_
  refine z_aload_n (j := 0) o dX6_parts_74 rfl ?_
  refine zo_get (i := 70) o hB dX6_parts_75 zf_X6_29 rfl (by decide) (rfl) ?_
  refine zo_rw (y := nI t) ((hv.wo : zVc kd m t (zWo M k ([13]))).2.2) ?_
  refine z_isub o dX6_parts_78 ?_
  refine z_istore (i := 4) (lv2 := [(4, .int (m - (nI t))), (0, zref B 70), (1, .int 0), (2, .int x)]) o dX6_parts_79 (by decide) rfl ?_
  refine z_aload_n (j := 1) o dX6_parts_81 rfl ?_
  refine z_iload (j := 0) o dX6_parts_82 rfl ?_
  refine z_ifne (tgt := 91) o dX6_parts_84 (by decide) (fun c6 => ?_) (fun c6 => ?_)
  · have hb9 : ¬ m - nI t = 0 := c6
    refine z_iconst (v := 0) o dX6_parts_91 (by decide) ?_
    refine zo_putz (i := 70) o hB dX6_parts_92 zp_X6_19 rfl (by decide) (by decide) (Nat.le_of_ble_eq_true rfl) (by decide) ?_
    refine z_iload (j := 0) o dX6_parts_95 rfl ?_
    refine z_ifne (tgt := 104) o dX6_parts_97 (by decide) (fun c7 => ?_) (fun c7 => ?_)
    · refine z_iload_n (j := 3) o dX6_parts_104 rfl ?_
      refine z_iload (j := 0) o dX6_parts_105 rfl ?_
      refine z_idiv o dX6_parts_107 (hb9) ?_
      exact kret _ _ _ _ dX6_parts_108 ⟨by rw [if_neg (show ¬ vs_by m t = 0 from hb9)], by unfold vs_pp; rw [if_neg (show ¬ vs_by m t = 0 from hb9)]; try rfl⟩
    · exact absurd c7 hb9
  · have hb9 : m - nI t = 0 := c6
    refine z_iconst (v := 1) o dX6_parts_87 (by decide) ?_
    refine z_goto (tgt := 92) o dX6_parts_88 (by decide) ?_
    refine zo_putz (i := 70) o hB dX6_parts_92 zp_X6_19 rfl (by decide) (by decide) (Nat.le_of_ble_eq_true rfl) (by decide) ?_
    refine z_iload (j := 0) o dX6_parts_95 rfl ?_
    refine z_ifne (tgt := 104) o dX6_parts_97 (by decide) (fun c8 => ?_) (fun c8 => ?_)
    · exact absurd hb9 c8
    · refine z_iconst (v := 0) o dX6_parts_100 (by decide) ?_
      refine z_goto (tgt := 108) o dX6_parts_101 (by decide) ?_
      exact kret _ _ _ _ dX6_parts_108 ⟨by rw [if_pos (show vs_by m t = 0 from hb9)], by unfold vs_pp; rw [if_pos (show vs_by m t = 0 from hb9)]; try rfl⟩

set_option maxHeartbeats 4000000 in
set_option maxRecDepth 100000 in
theorem c_X6_parts_kd {B : zB} (hB : znn B = 95) (M : zM) (N : zN) (kd m : Int32) (k t : Nat) (x : Int32) (hk : k + 8 ≤ 30) (h1 : M 70 1 = nI k) (hv : zVc kd m t M) : zCi B (zg B M N) yX6_parts cX6_parts 5 (some .int) 7 [zref B 70, .int kd, .int x] (fun r g' => g' = zg B (zu (zWo M k (vs_p kd m t x).2) 70 2 (if vs_by m t = 0 then 1 else 0)) N ∧ r = (vs_p kd m t x).1) := by
  refine zCi_of (by decide +kernel) (Nat.le_of_ble_eq_true rfl) .int rfl (fun _ _ _ => rfl) ?_
  intro X o kret
  show zW X B (zg B M N) 0 [(0, zref B 70), (1, .int kd), (2, .int x)] []
  by_cases hby : vs_by m t = 0
  · refine z_iload_n (j := 1) o dX6_parts_0 rfl ?_
    refine z_lcase 1 (off := 27) (tgt := 28) o dX6_parts_1 (by decide) (by decide) (by decide) (fun c1 => ?_) (fun c1 => ?_)
    · refine z_aload_n (j := 0) o dX6_parts_28 rfl ?_
      refine z_bipush (v := 21) o dX6_parts_29 (by decide) ?_
      refine z_callVv (As := [.int 21]) (n := 1) (st := []) o dX6_parts_31 (c_X6_begins hB M N (k) 21 (by omega) h1) zc_X6_45 (by decide) (i := 70) (by rw [hB]; exact zsh_lt rfl (by decide)) (zg_o rfl (by decide)) rfl rfl rfl (Nat.le_of_ble_eq_true rfl) (fun g3 p4 => ?_)
      cases p4
      refine z_aload_n (j := 0) o dX6_parts_34 rfl ?_
      refine z_iconst (v := 0) o dX6_parts_35 (by decide) ?_
      refine z_iload_n (j := 2) o dX6_parts_36 rfl ?_
      refine z_callVi (As := [.int 0, .int x]) (n := 2) (st := []) o dX6_parts_37 (c_X6_parts_0 hB (zWo M k ([21])) N kd m (k + 1) t x (by omega) zWo_b hv.wo) zc_X6_42 (by decide) (i := 70) (by rw [hB]; exact zsh_lt rfl (by decide)) (zg_o rfl (by decide)) rfl rfl rfl (Nat.le_of_ble_eq_true rfl) (fun r5 g6 p7 => ?_)
      obtain ⟨rfl, rfl⟩ := p7
      rw [if_pos hby]
      rw [zWo_app (M := M) (l1 := [21]) (l2 := [13]) (by first | rfl | simp)]
      refine z_istore_n (i := 3) (lv2 := [(3, .int (vs_pp m t x)), (0, zref B 70), (1, .int kd), (2, .int x)]) o dX6_parts_40 rfl (by decide) rfl ?_
      refine z_aload_n (j := 1) o dX6_parts_41 rfl ?_
      refine zo_get (i := 70) o hB dX6_parts_42 zf_X6_19 rfl (by decide) (rfl) ?_
      refine zo_rw (y := 1) (by rw [zu_at, upd_self]) ?_
      refine z_ifeq (tgt := 52) o dX6_parts_45 (by decide) (fun c8 => ?_) (fun c8 => ?_)
      · exact absurd c8 (by decide)
      · refine z_iconst (v := 0) o dX6_parts_48 (by decide) ?_
        refine z_goto (tgt := 63) o dX6_parts_49 (by decide) ?_
        exact kret _ _ _ _ dX6_parts_63 ⟨by unfold vs_p; rw [if_pos (Or.inl c1), if_pos hby, if_pos hby] <;> rfl, by unfold vs_p; rw [if_pos (Or.inl c1), if_pos hby]⟩
    refine z_lcase 4 (off := 27) (tgt := 28) o dX6_parts_1 (by decide) (by decide) (by decide) (fun c9 => ?_) (fun c9 => ?_)
    · refine z_aload_n (j := 0) o dX6_parts_28 rfl ?_
      refine z_bipush (v := 21) o dX6_parts_29 (by decide) ?_
      refine z_callVv (As := [.int 21]) (n := 1) (st := []) o dX6_parts_31 (c_X6_begins hB M N (k) 21 (by omega) h1) zc_X6_45 (by decide) (i := 70) (by rw [hB]; exact zsh_lt rfl (by decide)) (zg_o rfl (by decide)) rfl rfl rfl (Nat.le_of_ble_eq_true rfl) (fun g11 p12 => ?_)
      cases p12
      refine z_aload_n (j := 0) o dX6_parts_34 rfl ?_
      refine z_iconst (v := 0) o dX6_parts_35 (by decide) ?_
      refine z_iload_n (j := 2) o dX6_parts_36 rfl ?_
      refine z_callVi (As := [.int 0, .int x]) (n := 2) (st := []) o dX6_parts_37 (c_X6_parts_0 hB (zWo M k ([21])) N kd m (k + 1) t x (by omega) zWo_b hv.wo) zc_X6_42 (by decide) (i := 70) (by rw [hB]; exact zsh_lt rfl (by decide)) (zg_o rfl (by decide)) rfl rfl rfl (Nat.le_of_ble_eq_true rfl) (fun r13 g14 p15 => ?_)
      obtain ⟨rfl, rfl⟩ := p15
      rw [if_pos hby]
      rw [zWo_app (M := M) (l1 := [21]) (l2 := [13]) (by first | rfl | simp)]
      refine z_istore_n (i := 3) (lv2 := [(3, .int (vs_pp m t x)), (0, zref B 70), (1, .int kd), (2, .int x)]) o dX6_parts_40 rfl (by decide) rfl ?_
      refine z_aload_n (j := 1) o dX6_parts_41 rfl ?_
      refine zo_get (i := 70) o hB dX6_parts_42 zf_X6_19 rfl (by decide) (rfl) ?_
      refine zo_rw (y := 1) (by rw [zu_at, upd_self]) ?_
      refine z_ifeq (tgt := 52) o dX6_parts_45 (by decide) (fun c16 => ?_) (fun c16 => ?_)
      · exact absurd c16 (by decide)
      · refine z_iconst (v := 0) o dX6_parts_48 (by decide) ?_
        refine z_goto (tgt := 63) o dX6_parts_49 (by decide) ?_
        exact kret _ _ _ _ dX6_parts_63 ⟨by unfold vs_p; rw [if_pos (Or.inr c9), if_pos hby, if_pos hby] <;> rfl, by unfold vs_p; rw [if_pos (Or.inr c9), if_pos hby]⟩
    refine z_ldef (tgt := 64) o dX6_parts_1 (by decide) (by show Op.lookupswitch.offset [(1, 27), (4, 27)] _ _ = _; rw [lv_osw (a := 1) c1 rfl, lv_osw (a := 4) c9 rfl]; rfl) (by decide) ?_
    refine z_aload_n (j := 0) o dX6_parts_64 rfl ?_
    refine z_bipush (v := 13) o dX6_parts_65 (by decide) ?_
    refine z_callVv (As := [.int 13]) (n := 1) (st := []) o dX6_parts_67 (c_X6_begins hB M N (k) 13 (by omega) h1) zc_X6_45 (by decide) (i := 70) (by rw [hB]; exact zsh_lt rfl (by decide)) (zg_o rfl (by decide)) rfl rfl rfl (Nat.le_of_ble_eq_true rfl) (fun g18 p19 => ?_)
    cases p19
    refine z_aload_n (j := 0) o dX6_parts_70 rfl ?_
    refine zo_get (i := 70) o hB dX6_parts_71 zf_X6_26 rfl (by decide) (rfl) ?_
    refine zo_rw (y := m) ((hv.wo : zVc kd m t (zWo M k ([13]))).2.1) ?_
    refine z_aload_n (j := 0) o dX6_parts_74 rfl ?_
    refine zo_get (i := 70) o hB dX6_parts_75 zf_X6_29 rfl (by decide) (rfl) ?_
    refine zo_rw (y := nI t) ((hv.wo : zVc kd m t (zWo M k ([13]))).2.2) ?_
    refine z_isub o dX6_parts_78 ?_
    refine z_istore (i := 4) (lv2 := [(4, .int (m - (nI t))), (0, zref B 70), (1, .int kd), (2, .int x)]) o dX6_parts_79 (by decide) rfl ?_
    refine z_aload_n (j := 1) o dX6_parts_81 rfl ?_
    refine z_iload (j := 0) o dX6_parts_82 rfl ?_
    refine z_ifne (tgt := 91) o dX6_parts_84 (by decide) (fun c20 => ?_) (fun c20 => ?_)
    · exact absurd hby c20
    · refine z_iconst (v := 1) o dX6_parts_87 (by decide) ?_
      refine z_goto (tgt := 92) o dX6_parts_88 (by decide) ?_
      refine zo_putz (i := 70) o hB dX6_parts_92 zp_X6_19 rfl (by decide) (by decide) (Nat.le_of_ble_eq_true rfl) (by decide) ?_
      refine z_iload (j := 0) o dX6_parts_95 rfl ?_
      refine z_ifne (tgt := 104) o dX6_parts_97 (by decide) (fun c21 => ?_) (fun c21 => ?_)
      · exact absurd hby c21
      · refine z_iconst (v := 0) o dX6_parts_100 (by decide) ?_
        refine z_goto (tgt := 108) o dX6_parts_101 (by decide) ?_
        exact kret _ _ _ _ dX6_parts_108 ⟨by unfold vs_p; rw [if_neg (fun q => q.elim c1 c9), if_pos hby], by unfold vs_p vs_pp; rw [if_neg (fun q => q.elim c1 c9), if_pos hby]; try rfl⟩
  · refine z_iload_n (j := 1) o dX6_parts_0 rfl ?_
    refine z_lcase 1 (off := 27) (tgt := 28) o dX6_parts_1 (by decide) (by decide) (by decide) (fun c22 => ?_) (fun c22 => ?_)
    · refine z_aload_n (j := 0) o dX6_parts_28 rfl ?_
      refine z_bipush (v := 21) o dX6_parts_29 (by decide) ?_
      refine z_callVv (As := [.int 21]) (n := 1) (st := []) o dX6_parts_31 (c_X6_begins hB M N (k) 21 (by omega) h1) zc_X6_45 (by decide) (i := 70) (by rw [hB]; exact zsh_lt rfl (by decide)) (zg_o rfl (by decide)) rfl rfl rfl (Nat.le_of_ble_eq_true rfl) (fun g24 p25 => ?_)
      cases p25
      refine z_aload_n (j := 0) o dX6_parts_34 rfl ?_
      refine z_iconst (v := 0) o dX6_parts_35 (by decide) ?_
      refine z_iload_n (j := 2) o dX6_parts_36 rfl ?_
      refine z_callVi (As := [.int 0, .int x]) (n := 2) (st := []) o dX6_parts_37 (c_X6_parts_0 hB (zWo M k ([21])) N kd m (k + 1) t x (by omega) zWo_b hv.wo) zc_X6_42 (by decide) (i := 70) (by rw [hB]; exact zsh_lt rfl (by decide)) (zg_o rfl (by decide)) rfl rfl rfl (Nat.le_of_ble_eq_true rfl) (fun r26 g27 p28 => ?_)
      obtain ⟨rfl, rfl⟩ := p28
      rw [if_neg hby]
      rw [zWo_app (M := M) (l1 := [21]) (l2 := [13]) (by first | rfl | simp)]
      refine z_istore_n (i := 3) (lv2 := [(3, .int (vs_pp m t x)), (0, zref B 70), (1, .int kd), (2, .int x)]) o dX6_parts_40 rfl (by decide) rfl ?_
      refine z_aload_n (j := 1) o dX6_parts_41 rfl ?_
      refine zo_get (i := 70) o hB dX6_parts_42 zf_X6_19 rfl (by decide) (rfl) ?_
      refine zo_rw (y := 0) (by rw [zu_at, upd_self]) ?_
      refine z_ifeq (tgt := 52) o dX6_parts_45 (by decide) (fun c29 => ?_) (fun c29 => ?_)
      · refine z_iload_n (j := 0) o dX6_parts_52 rfl ?_
        refine z_aload_n (j := 1) o dX6_parts_53 rfl ?_
        refine z_aload_n (j := 1) o dX6_parts_54 rfl ?_
        refine zo_get (i := 70) o hB dX6_parts_55 zf_X6_23 rfl (by decide) (rfl) ?_
        refine zo_rw (y := kd) ((hv.wo.p : zVc kd m t (zu (zWo M k ([21] ++ [13])) 70 2 0)).1) ?_
        refine z_iconst (v := 1) o dX6_parts_58 (by decide) ?_
        refine z_callVi (As := [.int kd, .int 1]) (n := 2) (st := [.int (vs_pp m t x)]) o dX6_parts_59 (c_X6_leans_kd hB (zu (zWo M k ([21] ++ [13])) 70 2 0) N kd m (k + 2) t 1 (by omega) (by rw [zu_at, upd_ne (by decide)]; exact zWo_b) hv.wo.p) zc_X6_36 (by decide) (i := 70) (by rw [hB]; exact zsh_lt rfl (by decide)) (zg_o rfl (by decide)) rfl rfl rfl (Nat.le_of_ble_eq_true rfl) (fun r30 g31 p32 => ?_)
        obtain ⟨rfl, rfl⟩ := p32
        rw [zWo_p, zWo_app (M := M) (l1 := [21] ++ [13]) (l2 := (lw_l kd kd m t 1).2) (by first | rfl | simp)]
        refine z_iadd o dX6_parts_62 ?_
        exact kret _ _ _ _ dX6_parts_63 ⟨by unfold vs_p; rw [if_pos (Or.inl c22), if_neg hby, if_neg hby] <;> rfl, by unfold vs_p; rw [if_pos (Or.inl c22), if_neg hby] <;> rfl⟩
      · exact absurd c29 (by decide)
    refine z_lcase 4 (off := 27) (tgt := 28) o dX6_parts_1 (by decide) (by decide) (by decide) (fun c33 => ?_) (fun c33 => ?_)
    · refine z_aload_n (j := 0) o dX6_parts_28 rfl ?_
      refine z_bipush (v := 21) o dX6_parts_29 (by decide) ?_
      refine z_callVv (As := [.int 21]) (n := 1) (st := []) o dX6_parts_31 (c_X6_begins hB M N (k) 21 (by omega) h1) zc_X6_45 (by decide) (i := 70) (by rw [hB]; exact zsh_lt rfl (by decide)) (zg_o rfl (by decide)) rfl rfl rfl (Nat.le_of_ble_eq_true rfl) (fun g35 p36 => ?_)
      cases p36
      refine z_aload_n (j := 0) o dX6_parts_34 rfl ?_
      refine z_iconst (v := 0) o dX6_parts_35 (by decide) ?_
      refine z_iload_n (j := 2) o dX6_parts_36 rfl ?_
      refine z_callVi (As := [.int 0, .int x]) (n := 2) (st := []) o dX6_parts_37 (c_X6_parts_0 hB (zWo M k ([21])) N kd m (k + 1) t x (by omega) zWo_b hv.wo) zc_X6_42 (by decide) (i := 70) (by rw [hB]; exact zsh_lt rfl (by decide)) (zg_o rfl (by decide)) rfl rfl rfl (Nat.le_of_ble_eq_true rfl) (fun r37 g38 p39 => ?_)
      obtain ⟨rfl, rfl⟩ := p39
      rw [if_neg hby]
      rw [zWo_app (M := M) (l1 := [21]) (l2 := [13]) (by first | rfl | simp)]
      refine z_istore_n (i := 3) (lv2 := [(3, .int (vs_pp m t x)), (0, zref B 70), (1, .int kd), (2, .int x)]) o dX6_parts_40 rfl (by decide) rfl ?_
      refine z_aload_n (j := 1) o dX6_parts_41 rfl ?_
      refine zo_get (i := 70) o hB dX6_parts_42 zf_X6_19 rfl (by decide) (rfl) ?_
      refine zo_rw (y := 0) (by rw [zu_at, upd_self]) ?_
      refine z_ifeq (tgt := 52) o dX6_parts_45 (by decide) (fun c40 => ?_) (fun c40 => ?_)
      · refine z_iload_n (j := 0) o dX6_parts_52 rfl ?_
        refine z_aload_n (j := 1) o dX6_parts_53 rfl ?_
        refine z_aload_n (j := 1) o dX6_parts_54 rfl ?_
        refine zo_get (i := 70) o hB dX6_parts_55 zf_X6_23 rfl (by decide) (rfl) ?_
        refine zo_rw (y := kd) ((hv.wo.p : zVc kd m t (zu (zWo M k ([21] ++ [13])) 70 2 0)).1) ?_
        refine z_iconst (v := 1) o dX6_parts_58 (by decide) ?_
        refine z_callVi (As := [.int kd, .int 1]) (n := 2) (st := [.int (vs_pp m t x)]) o dX6_parts_59 (c_X6_leans_kd hB (zu (zWo M k ([21] ++ [13])) 70 2 0) N kd m (k + 2) t 1 (by omega) (by rw [zu_at, upd_ne (by decide)]; exact zWo_b) hv.wo.p) zc_X6_36 (by decide) (i := 70) (by rw [hB]; exact zsh_lt rfl (by decide)) (zg_o rfl (by decide)) rfl rfl rfl (Nat.le_of_ble_eq_true rfl) (fun r41 g42 p43 => ?_)
        obtain ⟨rfl, rfl⟩ := p43
        rw [zWo_p, zWo_app (M := M) (l1 := [21] ++ [13]) (l2 := (lw_l kd kd m t 1).2) (by first | rfl | simp)]
        refine z_iadd o dX6_parts_62 ?_
        exact kret _ _ _ _ dX6_parts_63 ⟨by unfold vs_p; rw [if_pos (Or.inr c33), if_neg hby, if_neg hby] <;> rfl, by unfold vs_p; rw [if_pos (Or.inr c33), if_neg hby] <;> rfl⟩
      · exact absurd c40 (by decide)
    refine z_ldef (tgt := 64) o dX6_parts_1 (by decide) (by show Op.lookupswitch.offset [(1, 27), (4, 27)] _ _ = _; rw [lv_osw (a := 1) c22 rfl, lv_osw (a := 4) c33 rfl]; rfl) (by decide) ?_
    refine z_aload_n (j := 0) o dX6_parts_64 rfl ?_
    refine z_bipush (v := 13) o dX6_parts_65 (by decide) ?_
    refine z_callVv (As := [.int 13]) (n := 1) (st := []) o dX6_parts_67 (c_X6_begins hB M N (k) 13 (by omega) h1) zc_X6_45 (by decide) (i := 70) (by rw [hB]; exact zsh_lt rfl (by decide)) (zg_o rfl (by decide)) rfl rfl rfl (Nat.le_of_ble_eq_true rfl) (fun g45 p46 => ?_)
    cases p46
    refine z_aload_n (j := 0) o dX6_parts_70 rfl ?_
    refine zo_get (i := 70) o hB dX6_parts_71 zf_X6_26 rfl (by decide) (rfl) ?_
    refine zo_rw (y := m) ((hv.wo : zVc kd m t (zWo M k ([13]))).2.1) ?_
    refine z_aload_n (j := 0) o dX6_parts_74 rfl ?_
    refine zo_get (i := 70) o hB dX6_parts_75 zf_X6_29 rfl (by decide) (rfl) ?_
    refine zo_rw (y := nI t) ((hv.wo : zVc kd m t (zWo M k ([13]))).2.2) ?_
    refine z_isub o dX6_parts_78 ?_
    refine z_istore (i := 4) (lv2 := [(4, .int (m - (nI t))), (0, zref B 70), (1, .int kd), (2, .int x)]) o dX6_parts_79 (by decide) rfl ?_
    refine z_aload_n (j := 1) o dX6_parts_81 rfl ?_
    refine z_iload (j := 0) o dX6_parts_82 rfl ?_
    refine z_ifne (tgt := 91) o dX6_parts_84 (by decide) (fun c47 => ?_) (fun c47 => ?_)
    · refine z_iconst (v := 0) o dX6_parts_91 (by decide) ?_
      refine zo_putz (i := 70) o hB dX6_parts_92 zp_X6_19 rfl (by decide) (by decide) (Nat.le_of_ble_eq_true rfl) (by decide) ?_
      refine z_iload (j := 0) o dX6_parts_95 rfl ?_
      refine z_ifne (tgt := 104) o dX6_parts_97 (by decide) (fun c48 => ?_) (fun c48 => ?_)
      · refine z_iload_n (j := 3) o dX6_parts_104 rfl ?_
        refine z_iload (j := 0) o dX6_parts_105 rfl ?_
        refine z_idiv o dX6_parts_107 (hby) ?_
        exact kret _ _ _ _ dX6_parts_108 ⟨by unfold vs_p; rw [if_neg (fun q => q.elim c22 c33), if_neg hby], by unfold vs_p vs_pp; rw [if_neg (fun q => q.elim c22 c33), if_neg hby]; try rfl⟩
      · exact absurd c48 hby
    · exact absurd c47 hby

def sp_vo (vc kd m : Int32) (t : Nat) (x : Int32) : Int32 × List Int32 := if vc = 0 then vs_s kd t x else if vc = 1 then vs_l kd m t x else if vc = 2 then vs_r kd m t x else vs_p kd m t x
def vz_M (M : zM) (kd m : Int32) (t : Nat) : zM := zu (zu (zu (zu (zu M 70 1 0) 70 2 0) 70 3 kd) 70 4 m) 70 5 (nI t)
theorem vz_ne {M : zM} {kd m : Int32} {t i : Nat} (h : i ≠ 70) : vz_M M kd m t i = M i := by
  unfold vz_M; rw [zu_ne h, zu_ne h, zu_ne h, zu_ne h, zu_ne h]
theorem vz_70 {M : zM} {kd m : Int32} {t k : Nat} : vz_M M kd m t 70 k = if k = 5 then nI t else if k = 4 then m else if k = 3 then kd else if k = 2 then 0 else if k = 1 then 0 else M 70 k := by
  unfold vz_M
  rw [zu_at, zu_at, zu_at, zu_at, zu_at]
  rfl
theorem vz_vc {M : zM} {kd m : Int32} {t : Nat} : zVc kd m t (vz_M M kd m t) := ⟨by rw [vz_70]; rfl, by rw [vz_70]; rfl, by rw [vz_70]; rfl⟩
theorem vz_out {M : zM} {kd m p : Int32} {t : Nat} {l : List Int32} : (∀ i, i ≠ 70 → i ≠ 71 → zu (zWo (vz_M M kd m t) 0 l) 70 2 p i = M i) ∧ zu (zWo (vz_M M kd m t) 0 l) 70 2 p 70 1 = nI l.length ∧ zu (zWo (vz_M M kd m t) 0 l) 70 2 p 71 = sp_app (M 71) 0 l ∧ zu (zWo (vz_M M kd m t) 0 l) 70 2 p 70 2 = p := by
  refine ⟨fun i a b => ?_, ?_, ?_, ?_⟩
  · rw [zu_ne a, zWo_ne a b, vz_ne a]
  · rw [zu_at, upd_ne (by decide), zWo_b, Nat.zero_add]
  · rw [zu_ne (by decide), zWo_71, vz_ne (by decide)]
  · rw [zu_at, upd_self]
theorem vz_out0 {M : zM} {kd m : Int32} {t : Nat} {l : List Int32} : (∀ i, i ≠ 70 → i ≠ 71 → zWo (vz_M M kd m t) 0 l i = M i) ∧ zWo (vz_M M kd m t) 0 l 70 1 = nI l.length ∧ zWo (vz_M M kd m t) 0 l 71 = sp_app (M 71) 0 l ∧ zWo (vz_M M kd m t) 0 l 70 2 = 0 := by
  refine ⟨fun i a b => ?_, ?_, ?_, ?_⟩
  · rw [zWo_ne a b, vz_ne a]
  · rw [zWo_b, Nat.zero_add]
  · rw [zWo_71, vz_ne (by decide)]
  · rw [zWo_o (by decide), vz_70]; rfl
set_option maxHeartbeats 4000000 in
set_option maxRecDepth 100000 in
theorem c_X6_answer {B : zB} (hB : znn B = 95) (M : zM) (N : zN) (vc kd m : Int32) (t : Nat) (x : Int32) (h3 : ¬ vc = 0 → ¬ vc = 1 → ¬ vc = 2 → vc = 3) : zCi B (zg B M N) yX6_answer cX6_answer 6 (some .int) 9 [zref B 70, .int vc, .int kd, .int m, .int (nI t), .int x] (fun r g' => ∃ M' : zM, g' = zg B M' N ∧ (∀ i, i ≠ 70 → i ≠ 71 → M' i = M i) ∧ r = (sp_vo vc kd m t x).1 ∧ M' 70 1 = nI (sp_vo vc kd m t x).2.length ∧ M' 71 = sp_app (M 71) 0 (sp_vo vc kd m t x).2 ∧ M' 70 2 = (if vc = 3 then (if vs_by m t = 0 then 1 else 0) else 0)) := by
  refine zCi_of (by decide +kernel) (Nat.le_of_ble_eq_true rfl) .int rfl (fun _ _ _ => rfl) ?_
  intro X o kret
  show zW X B (zg B M N) 0 [(0, zref B 70), (1, .int vc), (2, .int kd), (3, .int m), (4, .int (nI t)), (5, .int x)] []
  refine z_aload_n (j := 0) o dX6_answer_0 rfl ?_
  refine z_iconst (v := 0) o dX6_answer_1 (by decide) ?_
  refine zo_put (i := 70) o hB dX6_answer_2 zp_X6_15 rfl (by decide) (by decide) (Nat.le_of_ble_eq_true rfl) ?_
  refine z_aload_n (j := 0) o dX6_answer_5 rfl ?_
  refine z_iconst (v := 0) o dX6_answer_6 (by decide) ?_
  refine zo_putz (i := 70) o hB dX6_answer_7 zp_X6_19 rfl (by decide) (by decide) (Nat.le_of_ble_eq_true rfl) (by decide) ?_
  refine z_aload_n (j := 0) o dX6_answer_10 rfl ?_
  refine z_iload_n (j := 2) o dX6_answer_11 rfl ?_
  refine zo_put (i := 70) o hB dX6_answer_12 zp_X6_23 rfl (by decide) (by decide) (Nat.le_of_ble_eq_true rfl) ?_
  refine z_aload_n (j := 0) o dX6_answer_15 rfl ?_
  refine z_iload_n (j := 3) o dX6_answer_16 rfl ?_
  refine zo_put (i := 70) o hB dX6_answer_17 zp_X6_26 rfl (by decide) (by decide) (Nat.le_of_ble_eq_true rfl) ?_
  refine z_aload_n (j := 0) o dX6_answer_20 rfl ?_
  refine z_iload (j := 4) o dX6_answer_21 rfl ?_
  refine zo_put (i := 70) o hB dX6_answer_23 zp_X6_29 rfl (by decide) (by decide) (Nat.le_of_ble_eq_true rfl) ?_
  rw [show zu (zu (zu (zu (zu M 70 1 0) 70 2 0) 70 3 kd) 70 4 m) 70 5 (nI t) = vz_M M kd m t from rfl]
  refine z_iload_n (j := 1) o dX6_answer_26 rfl ?_
  refine z_tcase 0 (tgt := 52) o dX6_answer_27 (by decide) (by decide) rfl (by decide) (fun c1 => ?_) (fun c1 => ?_)
  · refine z_aload_n (j := 0) o dX6_answer_52 rfl ?_
    refine z_aload_n (j := 0) o dX6_answer_53 rfl ?_
    refine zo_get (i := 70) o hB dX6_answer_54 zf_X6_23 rfl (by decide) (rfl) ?_
    refine zo_rw (y := kd) (by rw [vz_70]; rfl) ?_
    refine z_iload (j := 5) o dX6_answer_57 rfl ?_
    refine z_callVi (As := [.int kd, .int x]) (n := 2) (st := []) o dX6_answer_59 (c_X6_sings_kd hB (vz_M M kd m t) N kd m 0 t x (by decide) (by rw [vz_70]; rfl) vz_vc) zc_X6_32 (by decide) (i := 70) (by rw [hB]; exact zsh_lt rfl (by decide)) (zg_o rfl (by decide)) rfl rfl rfl (Nat.le_of_ble_eq_true rfl) (fun r2 g3 p4 => ?_)
    obtain ⟨rfl, rfl⟩ := p4
    have hE : sp_vo vc kd m t x = vs_s kd t x := by unfold sp_vo; rw [if_pos c1]
    exact kret _ _ _ _ dX6_answer_62 ⟨_, rfl, vz_out0.1, by rw [hE]; try rfl, by rw [hE]; exact vz_out0.2.1, by rw [hE]; exact vz_out0.2.2.1, by rw [if_neg (by rw [c1]; decide)]; exact vz_out0.2.2.2⟩
  refine z_tcase 1 (tgt := 63) o dX6_answer_27 (by decide) (by decide) rfl (by decide) (fun c5 => ?_) (fun c5 => ?_)
  · refine z_aload_n (j := 0) o dX6_answer_63 rfl ?_
    refine z_aload_n (j := 0) o dX6_answer_64 rfl ?_
    refine zo_get (i := 70) o hB dX6_answer_65 zf_X6_23 rfl (by decide) (rfl) ?_
    refine zo_rw (y := kd) (by rw [vz_70]; rfl) ?_
    refine z_iload (j := 5) o dX6_answer_68 rfl ?_
    refine z_callVi (As := [.int kd, .int x]) (n := 2) (st := []) o dX6_answer_70 (c_X6_leans_kd hB (vz_M M kd m t) N kd m 0 t x (by decide) (by rw [vz_70]; rfl) vz_vc) zc_X6_36 (by decide) (i := 70) (by rw [hB]; exact zsh_lt rfl (by decide)) (zg_o rfl (by decide)) rfl rfl rfl (Nat.le_of_ble_eq_true rfl) (fun r6 g7 p8 => ?_)
    obtain ⟨rfl, rfl⟩ := p8
    have hE : sp_vo vc kd m t x = vs_l kd m t x := by unfold sp_vo; rw [if_neg c1, if_pos c5]
    exact kret _ _ _ _ dX6_answer_73 ⟨_, rfl, vz_out0.1, by rw [hE]; try rfl, by rw [hE]; exact vz_out0.2.1, by rw [hE]; exact vz_out0.2.2.1, by rw [if_neg (by rw [c5]; decide)]; exact vz_out0.2.2.2⟩
  refine z_tcase 2 (tgt := 74) o dX6_answer_27 (by decide) (by decide) rfl (by decide) (fun c9 => ?_) (fun c9 => ?_)
  · refine z_aload_n (j := 0) o dX6_answer_74 rfl ?_
    refine z_aload_n (j := 0) o dX6_answer_75 rfl ?_
    refine zo_get (i := 70) o hB dX6_answer_76 zf_X6_23 rfl (by decide) (rfl) ?_
    refine zo_rw (y := kd) (by rw [vz_70]; rfl) ?_
    refine z_iload (j := 5) o dX6_answer_79 rfl ?_
    refine z_callVi (As := [.int kd, .int x]) (n := 2) (st := []) o dX6_answer_81 (c_X6_sprouts_kd hB (vz_M M kd m t) N kd m 0 t x (by decide) (by rw [vz_70]; rfl) vz_vc) zc_X6_39 (by decide) (i := 70) (by rw [hB]; exact zsh_lt rfl (by decide)) (zg_o rfl (by decide)) rfl rfl rfl (Nat.le_of_ble_eq_true rfl) (fun r10 g11 p12 => ?_)
    obtain ⟨rfl, rfl⟩ := p12
    have hE : sp_vo vc kd m t x = vs_r kd m t x := by unfold sp_vo; rw [if_neg c1, if_neg c5, if_pos c9]
    exact kret _ _ _ _ dX6_answer_84 ⟨_, rfl, vz_out0.1, by rw [hE]; try rfl, by rw [hE]; exact vz_out0.2.1, by rw [hE]; exact vz_out0.2.2.1, by rw [if_neg (by rw [c9]; decide)]; exact vz_out0.2.2.2⟩
  refine z_tdef (tgt := 85) o dX6_answer_27 (by have := lv_neT (a := 0) c1 rfl; have := lv_neT (a := 1) c5 rfl; have := lv_neT (a := 2) c9 rfl; omega) (by decide) ?_
  refine z_aload_n (j := 0) o dX6_answer_85 rfl ?_
  refine z_aload_n (j := 0) o dX6_answer_86 rfl ?_
  refine zo_get (i := 70) o hB dX6_answer_87 zf_X6_23 rfl (by decide) (rfl) ?_
  refine zo_rw (y := kd) (by rw [vz_70]; rfl) ?_
  refine z_iload (j := 5) o dX6_answer_90 rfl ?_
  refine z_callVi (As := [.int kd, .int x]) (n := 2) (st := []) o dX6_answer_92 (c_X6_parts_kd hB (vz_M M kd m t) N kd m 0 t x (by decide) (by rw [vz_70]; rfl) vz_vc) zc_X6_42 (by decide) (i := 70) (by rw [hB]; exact zsh_lt rfl (by decide)) (zg_o rfl (by decide)) rfl rfl rfl (Nat.le_of_ble_eq_true rfl) (fun r13 g14 p15 => ?_)
  obtain ⟨rfl, rfl⟩ := p15
  have hE : sp_vo vc kd m t x = vs_p kd m t x := by unfold sp_vo; rw [if_neg c1, if_neg c5, if_neg c9]
  exact kret _ _ _ _ dX6_answer_95 ⟨_, rfl, vz_out.1, by rw [hE]; try rfl, by rw [hE]; exact vz_out.2.1, by rw [hE]; exact vz_out.2.2.1, by rw [if_pos (h3 c1 c5 c9)]; exact vz_out.2.2.2⟩

