/-! the reference: the reader (1) -/
set_option maxHeartbeats 4000000 in
set_option maxRecDepth 100000 in
theorem c_X8_look {B : zB} (hB : znn B = 95) (M : zM) (N : zN) (h : Nat) (hh : M 82 13 = nI h) (hh60 : h ≤ 60) (hok : zOkR (M 83)) : zCi B (zg B M N) yX8_look cX8_look 1 (some .int) 0 [zref B 82] (fun r g' => g' = zg B M N ∧ r = sp_lk (M 83) h) := by
  refine zCi_of (by decide +kernel) (Nat.le_of_ble_eq_true rfl) .int rfl (fun _ _ _ => rfl) ?_
  intro X o kret
  show zW X B (zg B M N) 0 [(0, zref B 82)] []
  obtain ⟨hnt, hnt60⟩ := ok_nt2 hok
  refine z_aload_n (j := 0) o dX8_look_0 rfl ?_
  refine zo_get (i := 82) o hB dX8_look_1 zf_X8_132 rfl (by decide) rfl ?_
  refine zo_rw (y := nI h) (hh) ?_
  refine z_aload_n (j := 0) o dX8_look_4 rfl ?_
  refine zo_get (i := 82) o hB dX8_look_5 zf_X8_9 rfl (by decide) rfl ?_
  refine z_iconst (v := 4) o dX8_look_8 (by decide) ?_
  refine zo_iald (i := 83) (j := 4) o hB dX8_look_9 rfl (show 4 < 524 by omega) (by decide) ?_
  refine zo_rw (y := nI (sp_nt (M 83))) (hnt) ?_
  refine z_icmpge (tgt := 29) o dX8_look_10 (by decide) (fun c1 => ?_) (fun c1 => ?_)
  · refine z_iconst (v := (-1)) o dX8_look_29 (by decide) ?_
    exact kret _ _ _ _ dX8_look_30 ⟨rfl, by unfold sp_lk; rw [if_neg (fun q => c1 (nI_lt q (by omega)))]⟩
  · refine z_aload_n (j := 0) o dX8_look_13 rfl ?_
    refine zo_get (i := 82) o hB dX8_look_14 zf_X8_9 rfl (by decide) rfl ?_
    refine z_sipush (v := 198) o dX8_look_17 (by decide) ?_
    refine z_aload_n (j := 0) o dX8_look_20 rfl ?_
    refine zo_get (i := 82) o hB dX8_look_21 zf_X8_132 rfl (by decide) rfl ?_
    refine zo_rw (y := nI h) (hh) ?_
    refine z_iadd o dX8_look_24 ?_
    refine zo_rw (y := nI (198 + h)) (zn_add (rfl) (rfl)) ?_
    refine zo_iald (i := 83) (j := 198 + h) o hB dX8_look_25 rfl (show 198 + h < 524 by omega) (by decide) ?_
    refine z_goto (tgt := 30) o dX8_look_26 (by decide) ?_
    exact kret _ _ _ _ dX8_look_30 ⟨rfl, by unfold sp_lk; rw [if_pos ((nI_ltI (by omega) (by omega)).mp c1)]⟩

set_option maxHeartbeats 4000000 in
set_option maxRecDepth 100000 in
theorem c_X8_step {B : zB} (hB : znn B = 95) (M : zM) (N : zN) (w v : Int32) (hl : zle (M 82 12) 60) : zCv B (zg B M N) yX8_step cX8_step 3 none 0 [zref B 82, .int w, .int v] (fun g' => g' = zg B (sp_step M w v) N) := by
  refine zCv_of (by decide +kernel) (Nat.le_of_ble_eq_true rfl) ?_
  intro X o kret
  show zW X B (zg B M N) 0 [(0, zref B 82), (1, .int w), (2, .int v)] []
  obtain ⟨e4, l4⟩ := zle_zn (by decide) hl
  refine z_aload_n (j := 0) o dX8_step_0 rfl ?_
  refine zo_get (i := 82) o hB dX8_step_1 zf_X8_136 rfl (by decide) rfl ?_
  refine zo_rw (y := nI (zn (M 82 12))) (e4) ?_
  refine z_aload_n (j := 0) o dX8_step_4 rfl ?_
  refine zo_get (i := 82) o hB dX8_step_5 zf_X8_31 rfl (by decide) rfl ?_
  refine zo_leni (i := 90) o hB dX8_step_8 rfl ?_
  refine zo_rw (y := nI 60) rfl ?_
  refine z_icmpge (tgt := 42) o dX8_step_9 (by decide) (fun c1 => ?_) (fun c1 => ?_)
  · exact kret _ _ _ dX8_step_42 (by unfold sp_step; rw [if_neg (fun q => c1 (nI_lt (b := 60) q (by decide)))])
  · have hlt : zn (M 82 12) < 60 := (nI_ltI (b := 60) (by omega) (by decide)).mp c1
    refine z_aload_n (j := 0) o dX8_step_12 rfl ?_
    refine zo_get (i := 82) o hB dX8_step_13 zf_X8_31 rfl (by decide) rfl ?_
    refine z_aload_n (j := 0) o dX8_step_16 rfl ?_
    refine zo_get (i := 82) o hB dX8_step_17 zf_X8_136 rfl (by decide) rfl ?_
    refine zo_rw (y := nI (zn (M 82 12))) (e4) ?_
    refine z_iload_n (j := 1) o dX8_step_20 rfl ?_
    refine zo_iast (i := 90) (j := zn (M 82 12)) o hB dX8_step_21 rfl (show zn (M 82 12) < 60 by omega) (by decide) ?_
    refine zo_nm (fun M2 hM2 => ?_)
    have fM2 : M2 82 12 = nI (zn (M 82 12)) := by rw [hM2, zu_ne (by decide)]; exact e4
    refine z_aload_n (j := 0) o dX8_step_22 rfl ?_
    refine zo_get (i := 82) o hB dX8_step_23 zf_X8_34 rfl (by decide) rfl ?_
    refine z_aload_n (j := 0) o dX8_step_26 rfl ?_
    refine zo_get (i := 82) o hB dX8_step_27 zf_X8_136 rfl (by decide) rfl ?_
    refine zo_rw (y := nI (zn (M 82 12))) (fM2) ?_
    refine z_iload_n (j := 2) o dX8_step_30 rfl ?_
    refine zo_iast (i := 91) (j := zn (M 82 12)) o hB dX8_step_31 rfl (show zn (M 82 12) < 60 by omega) (by decide) ?_
    refine zo_nm (fun M3 hM3 => ?_)
    have fM3 : M3 82 12 = nI (zn (M 82 12)) := by rw [hM3, zu_ne (by decide)]; exact fM2
    refine z_aload_n (j := 0) o dX8_step_32 rfl ?_
    refine z_dup o dX8_step_33 rfl ?_
    refine zo_get (i := 82) o hB dX8_step_34 zf_X8_136 rfl (by decide) rfl ?_
    refine zo_rw (y := nI (zn (M 82 12))) (fM3) ?_
    refine z_iconst (v := 1) o dX8_step_37 (by decide) ?_
    refine z_iadd o dX8_step_38 ?_
    refine zo_rw (y := nI (zn (M 82 12) + 1)) (zn_add (rfl) (rfl)) ?_
    refine zo_put (i := 82) o hB dX8_step_39 zp_X8_136 rfl (by decide) (by decide) (Nat.le_of_ble_eq_true rfl) ?_
    refine zo_nm (fun M4 hM4 => ?_)
    exact kret _ _ _ dX8_step_42 (by subst_vars; unfold sp_step; rw [if_pos hlt])

set_option maxHeartbeats 4000000 in
set_option maxRecDepth 100000 in
theorem c_X8_nameOf {B : zB} (hB : znn B = 95) (M : zM) (N : zN) (u : Nat) (b : Int32) (hu : u < 2) (hu2 : M 82 16 = nI u) : zCi B (zg B M N) yX8_nameOf cX8_nameOf 2 (some .int) 0 [zref B 82, .int b] (fun r g' => g' = zg B M N ∧ r = sp_nm u b) := by
  refine zCi_of (by decide +kernel) (Nat.le_of_ble_eq_true rfl) .int rfl (fun _ _ _ => rfl) ?_
  intro X o kret
  show zW X B (zg B M N) 0 [(0, zref B 82), (1, .int b)] []
  rcases (show u = 0 ∨ u = 1 by omega) with rfl | rfl
  · refine z_iload_n (j := 1) o dX8_nameOf_0 rfl ?_
    refine z_tcase 97 (tgt := 80) o dX8_nameOf_1 (by decide) (by decide) rfl (by decide) (fun c1 => ?_) (fun c1 => ?_)
    · refine z_aload_n (j := 0) o dX8_nameOf_80 rfl ?_
      refine zo_get (i := 82) o hB dX8_nameOf_81 zf_X8_139 rfl (by decide) rfl ?_
      refine zo_rw (y := 0) (hu2) ?_
      refine z_ifeq (tgt := 91) o dX8_nameOf_84 (by decide) (fun c2 => ?_) (fun c2 => ?_)
      · refine z_iload_n (j := 1) o dX8_nameOf_91 rfl ?_
        refine z_bipush (v := 97) o dX8_nameOf_92 (by decide) ?_
        refine z_icmpne (tgt := 101) o dX8_nameOf_94 (by decide) (fun c3 => ?_) (fun c3 => ?_)
        · refine z_iload_n (j := 1) o dX8_nameOf_101 rfl ?_
          refine z_bipush (v := 112) o dX8_nameOf_102 (by decide) ?_
          refine z_icmpne (tgt := 111) o dX8_nameOf_104 (by decide) (fun c4 => ?_) (fun c4 => ?_)
          · refine z_iconst (v := 2) o dX8_nameOf_111 (by decide) ?_
            exact kret _ _ _ _ dX8_nameOf_112 ⟨rfl, by unfold sp_nm; first | contradiction | (simp [*]; done) | simp_all⟩
          · refine z_iconst (v := 1) o dX8_nameOf_107 (by decide) ?_
            refine z_goto (tgt := 112) o dX8_nameOf_108 (by decide) ?_
            exact kret _ _ _ _ dX8_nameOf_112 ⟨rfl, by unfold sp_nm; first | contradiction | (simp [*]; done) | simp_all⟩
        · refine z_iconst (v := 0) o dX8_nameOf_97 (by decide) ?_
          refine z_goto (tgt := 112) o dX8_nameOf_98 (by decide) ?_
          exact kret _ _ _ _ dX8_nameOf_112 ⟨rfl, by unfold sp_nm; first | contradiction | (simp [*]; done) | simp_all⟩
      · exact absurd c2 (by decide)
    refine z_tcase 98 (tgt := 113) o dX8_nameOf_1 (by decide) (by decide) rfl (by decide) (fun c5 => ?_) (fun c5 => ?_)
    · refine z_aload_n (j := 0) o dX8_nameOf_113 rfl ?_
      refine zo_get (i := 82) o hB dX8_nameOf_114 zf_X8_139 rfl (by decide) rfl ?_
      refine zo_rw (y := 0) (hu2) ?_
      refine z_iconst (v := 1) o dX8_nameOf_117 (by decide) ?_
      refine z_icmpeq (tgt := 125) o dX8_nameOf_118 (by decide) (fun c6 => ?_) (fun c6 => ?_)
      · exact absurd c6 (by decide)
      · refine z_iconst (v := (-1)) o dX8_nameOf_121 (by decide) ?_
        refine z_goto (tgt := 146) o dX8_nameOf_122 (by decide) ?_
        exact kret _ _ _ _ dX8_nameOf_146 ⟨rfl, by unfold sp_nm; first | contradiction | (simp [*]; done) | simp_all⟩
    refine z_tcase 99 (tgt := 113) o dX8_nameOf_1 (by decide) (by decide) rfl (by decide) (fun c7 => ?_) (fun c7 => ?_)
    · refine z_aload_n (j := 0) o dX8_nameOf_113 rfl ?_
      refine zo_get (i := 82) o hB dX8_nameOf_114 zf_X8_139 rfl (by decide) rfl ?_
      refine zo_rw (y := 0) (hu2) ?_
      refine z_iconst (v := 1) o dX8_nameOf_117 (by decide) ?_
      refine z_icmpeq (tgt := 125) o dX8_nameOf_118 (by decide) (fun c8 => ?_) (fun c8 => ?_)
      · exact absurd c8 (by decide)
      · refine z_iconst (v := (-1)) o dX8_nameOf_121 (by decide) ?_
        refine z_goto (tgt := 146) o dX8_nameOf_122 (by decide) ?_
        exact kret _ _ _ _ dX8_nameOf_146 ⟨rfl, by unfold sp_nm; first | contradiction | (simp [*]; done) | simp_all⟩
    refine z_tcase 100 (tgt := 113) o dX8_nameOf_1 (by decide) (by decide) rfl (by decide) (fun c9 => ?_) (fun c9 => ?_)
    · refine z_aload_n (j := 0) o dX8_nameOf_113 rfl ?_
      refine zo_get (i := 82) o hB dX8_nameOf_114 zf_X8_139 rfl (by decide) rfl ?_
      refine zo_rw (y := 0) (hu2) ?_
      refine z_iconst (v := 1) o dX8_nameOf_117 (by decide) ?_
      refine z_icmpeq (tgt := 125) o dX8_nameOf_118 (by decide) (fun c10 => ?_) (fun c10 => ?_)
      · exact absurd c10 (by decide)
      · refine z_iconst (v := (-1)) o dX8_nameOf_121 (by decide) ?_
        refine z_goto (tgt := 146) o dX8_nameOf_122 (by decide) ?_
        exact kret _ _ _ _ dX8_nameOf_146 ⟨rfl, by unfold sp_nm; first | contradiction | (simp [*]; done) | simp_all⟩
    refine z_tcase 101 (tgt := 147) o dX8_nameOf_1 (by decide) (by decide) rfl (by decide) (fun c11 => ?_) (fun c11 => ?_)
    · refine z_iconst (v := (-1)) o dX8_nameOf_147 (by decide) ?_
      exact kret _ _ _ _ dX8_nameOf_148 ⟨rfl, by unfold sp_nm; first | contradiction | (simp [*]; done) | simp_all⟩
    refine z_tcase 102 (tgt := 147) o dX8_nameOf_1 (by decide) (by decide) rfl (by decide) (fun c12 => ?_) (fun c12 => ?_)
    · refine z_iconst (v := (-1)) o dX8_nameOf_147 (by decide) ?_
      exact kret _ _ _ _ dX8_nameOf_148 ⟨rfl, by unfold sp_nm; first | contradiction | (simp [*]; done) | simp_all⟩
    refine z_tcase 103 (tgt := 147) o dX8_nameOf_1 (by decide) (by decide) rfl (by decide) (fun c13 => ?_) (fun c13 => ?_)
    · refine z_iconst (v := (-1)) o dX8_nameOf_147 (by decide) ?_
      exact kret _ _ _ _ dX8_nameOf_148 ⟨rfl, by unfold sp_nm; first | contradiction | (simp [*]; done) | simp_all⟩
    refine z_tcase 104 (tgt := 147) o dX8_nameOf_1 (by decide) (by decide) rfl (by decide) (fun c14 => ?_) (fun c14 => ?_)
    · refine z_iconst (v := (-1)) o dX8_nameOf_147 (by decide) ?_
      exact kret _ _ _ _ dX8_nameOf_148 ⟨rfl, by unfold sp_nm; first | contradiction | (simp [*]; done) | simp_all⟩
    refine z_tcase 105 (tgt := 147) o dX8_nameOf_1 (by decide) (by decide) rfl (by decide) (fun c15 => ?_) (fun c15 => ?_)
    · refine z_iconst (v := (-1)) o dX8_nameOf_147 (by decide) ?_
      exact kret _ _ _ _ dX8_nameOf_148 ⟨rfl, by unfold sp_nm; first | contradiction | (simp [*]; done) | simp_all⟩
    refine z_tcase 106 (tgt := 147) o dX8_nameOf_1 (by decide) (by decide) rfl (by decide) (fun c16 => ?_) (fun c16 => ?_)
    · refine z_iconst (v := (-1)) o dX8_nameOf_147 (by decide) ?_
      exact kret _ _ _ _ dX8_nameOf_148 ⟨rfl, by unfold sp_nm; first | contradiction | (simp [*]; done) | simp_all⟩
    refine z_tcase 107 (tgt := 80) o dX8_nameOf_1 (by decide) (by decide) rfl (by decide) (fun c17 => ?_) (fun c17 => ?_)
    · refine z_aload_n (j := 0) o dX8_nameOf_80 rfl ?_
      refine zo_get (i := 82) o hB dX8_nameOf_81 zf_X8_139 rfl (by decide) rfl ?_
      refine zo_rw (y := 0) (hu2) ?_
      refine z_ifeq (tgt := 91) o dX8_nameOf_84 (by decide) (fun c18 => ?_) (fun c18 => ?_)
      · refine z_iload_n (j := 1) o dX8_nameOf_91 rfl ?_
        refine z_bipush (v := 97) o dX8_nameOf_92 (by decide) ?_
        refine z_icmpne (tgt := 101) o dX8_nameOf_94 (by decide) (fun c19 => ?_) (fun c19 => ?_)
        · refine z_iload_n (j := 1) o dX8_nameOf_101 rfl ?_
          refine z_bipush (v := 112) o dX8_nameOf_102 (by decide) ?_
          refine z_icmpne (tgt := 111) o dX8_nameOf_104 (by decide) (fun c20 => ?_) (fun c20 => ?_)
          · refine z_iconst (v := 2) o dX8_nameOf_111 (by decide) ?_
            exact kret _ _ _ _ dX8_nameOf_112 ⟨rfl, by unfold sp_nm; first | contradiction | (simp [*]; done) | simp_all⟩
          · refine z_iconst (v := 1) o dX8_nameOf_107 (by decide) ?_
            refine z_goto (tgt := 112) o dX8_nameOf_108 (by decide) ?_
            exact kret _ _ _ _ dX8_nameOf_112 ⟨rfl, by unfold sp_nm; first | contradiction | (simp [*]; done) | simp_all⟩
        · refine z_iconst (v := 0) o dX8_nameOf_97 (by decide) ?_
          refine z_goto (tgt := 112) o dX8_nameOf_98 (by decide) ?_
          exact kret _ _ _ _ dX8_nameOf_112 ⟨rfl, by unfold sp_nm; first | contradiction | (simp [*]; done) | simp_all⟩
      · exact absurd c18 (by decide)
    refine z_tcase 108 (tgt := 147) o dX8_nameOf_1 (by decide) (by decide) rfl (by decide) (fun c21 => ?_) (fun c21 => ?_)
    · refine z_iconst (v := (-1)) o dX8_nameOf_147 (by decide) ?_
      exact kret _ _ _ _ dX8_nameOf_148 ⟨rfl, by unfold sp_nm; first | contradiction | (simp [*]; done) | simp_all⟩
    refine z_tcase 109 (tgt := 147) o dX8_nameOf_1 (by decide) (by decide) rfl (by decide) (fun c22 => ?_) (fun c22 => ?_)
    · refine z_iconst (v := (-1)) o dX8_nameOf_147 (by decide) ?_
      exact kret _ _ _ _ dX8_nameOf_148 ⟨rfl, by unfold sp_nm; first | contradiction | (simp [*]; done) | simp_all⟩
    refine z_tcase 110 (tgt := 147) o dX8_nameOf_1 (by decide) (by decide) rfl (by decide) (fun c23 => ?_) (fun c23 => ?_)
    · refine z_iconst (v := (-1)) o dX8_nameOf_147 (by decide) ?_
      exact kret _ _ _ _ dX8_nameOf_148 ⟨rfl, by unfold sp_nm; first | contradiction | (simp [*]; done) | simp_all⟩
    refine z_tcase 111 (tgt := 147) o dX8_nameOf_1 (by decide) (by decide) rfl (by decide) (fun c24 => ?_) (fun c24 => ?_)
    · refine z_iconst (v := (-1)) o dX8_nameOf_147 (by decide) ?_
      exact kret _ _ _ _ dX8_nameOf_148 ⟨rfl, by unfold sp_nm; first | contradiction | (simp [*]; done) | simp_all⟩
    refine z_tcase 112 (tgt := 80) o dX8_nameOf_1 (by decide) (by decide) rfl (by decide) (fun c25 => ?_) (fun c25 => ?_)
    · refine z_aload_n (j := 0) o dX8_nameOf_80 rfl ?_
      refine zo_get (i := 82) o hB dX8_nameOf_81 zf_X8_139 rfl (by decide) rfl ?_
      refine zo_rw (y := 0) (hu2) ?_
      refine z_ifeq (tgt := 91) o dX8_nameOf_84 (by decide) (fun c26 => ?_) (fun c26 => ?_)
      · refine z_iload_n (j := 1) o dX8_nameOf_91 rfl ?_
        refine z_bipush (v := 97) o dX8_nameOf_92 (by decide) ?_
        refine z_icmpne (tgt := 101) o dX8_nameOf_94 (by decide) (fun c27 => ?_) (fun c27 => ?_)
        · refine z_iload_n (j := 1) o dX8_nameOf_101 rfl ?_
          refine z_bipush (v := 112) o dX8_nameOf_102 (by decide) ?_
          refine z_icmpne (tgt := 111) o dX8_nameOf_104 (by decide) (fun c28 => ?_) (fun c28 => ?_)
          · refine z_iconst (v := 2) o dX8_nameOf_111 (by decide) ?_
            exact kret _ _ _ _ dX8_nameOf_112 ⟨rfl, by unfold sp_nm; first | contradiction | (simp [*]; done) | simp_all⟩
          · refine z_iconst (v := 1) o dX8_nameOf_107 (by decide) ?_
            refine z_goto (tgt := 112) o dX8_nameOf_108 (by decide) ?_
            exact kret _ _ _ _ dX8_nameOf_112 ⟨rfl, by unfold sp_nm; first | contradiction | (simp [*]; done) | simp_all⟩
        · refine z_iconst (v := 0) o dX8_nameOf_97 (by decide) ?_
          refine z_goto (tgt := 112) o dX8_nameOf_98 (by decide) ?_
          exact kret _ _ _ _ dX8_nameOf_112 ⟨rfl, by unfold sp_nm; first | contradiction | (simp [*]; done) | simp_all⟩
      · exact absurd c26 (by decide)
    refine z_tdef (tgt := 147) o dX8_nameOf_1 (by have := lv_neT (a := 97) c1 rfl; have := lv_neT (a := 98) c5 rfl; have := lv_neT (a := 99) c7 rfl; have := lv_neT (a := 100) c9 rfl; have := lv_neT (a := 101) c11 rfl; have := lv_neT (a := 102) c12 rfl; have := lv_neT (a := 103) c13 rfl; have := lv_neT (a := 104) c14 rfl; have := lv_neT (a := 105) c15 rfl; have := lv_neT (a := 106) c16 rfl; have := lv_neT (a := 107) c17 rfl; have := lv_neT (a := 108) c21 rfl; have := lv_neT (a := 109) c22 rfl; have := lv_neT (a := 110) c23 rfl; have := lv_neT (a := 111) c24 rfl; have := lv_neT (a := 112) c25 rfl; omega) (by decide) ?_
    refine z_iconst (v := (-1)) o dX8_nameOf_147 (by decide) ?_
    exact kret _ _ _ _ dX8_nameOf_148 ⟨rfl, by unfold sp_nm; first | contradiction | (simp [*]; done) | simp_all⟩
  · refine z_iload_n (j := 1) o dX8_nameOf_0 rfl ?_
    refine z_tcase 97 (tgt := 80) o dX8_nameOf_1 (by decide) (by decide) rfl (by decide) (fun c29 => ?_) (fun c29 => ?_)
    · refine z_aload_n (j := 0) o dX8_nameOf_80 rfl ?_
      refine zo_get (i := 82) o hB dX8_nameOf_81 zf_X8_139 rfl (by decide) rfl ?_
      refine zo_rw (y := 1) (hu2) ?_
      refine z_ifeq (tgt := 91) o dX8_nameOf_84 (by decide) (fun c30 => ?_) (fun c30 => ?_)
      · exact absurd c30 (by decide)
      · refine z_iconst (v := (-1)) o dX8_nameOf_87 (by decide) ?_
        refine z_goto (tgt := 112) o dX8_nameOf_88 (by decide) ?_
        exact kret _ _ _ _ dX8_nameOf_112 ⟨rfl, by unfold sp_nm; first | contradiction | (simp [*]; done) | simp_all⟩
    refine z_tcase 98 (tgt := 113) o dX8_nameOf_1 (by decide) (by decide) rfl (by decide) (fun c31 => ?_) (fun c31 => ?_)
    · refine z_aload_n (j := 0) o dX8_nameOf_113 rfl ?_
      refine zo_get (i := 82) o hB dX8_nameOf_114 zf_X8_139 rfl (by decide) rfl ?_
      refine zo_rw (y := 1) (hu2) ?_
      refine z_iconst (v := 1) o dX8_nameOf_117 (by decide) ?_
      refine z_icmpeq (tgt := 125) o dX8_nameOf_118 (by decide) (fun c32 => ?_) (fun c32 => ?_)
      · refine z_iload_n (j := 1) o dX8_nameOf_125 rfl ?_
        refine z_bipush (v := 99) o dX8_nameOf_126 (by decide) ?_
        refine z_icmpne (tgt := 135) o dX8_nameOf_128 (by decide) (fun c33 => ?_) (fun c33 => ?_)
        · refine z_iload_n (j := 1) o dX8_nameOf_135 rfl ?_
          refine z_bipush (v := 98) o dX8_nameOf_136 (by decide) ?_
          refine z_icmpne (tgt := 145) o dX8_nameOf_138 (by decide) (fun c34 => ?_) (fun c34 => ?_)
          · refine z_iconst (v := 2) o dX8_nameOf_145 (by decide) ?_
            exact kret _ _ _ _ dX8_nameOf_146 ⟨rfl, by unfold sp_nm; first | contradiction | (simp [*]; done) | simp_all⟩
          · refine z_iconst (v := 1) o dX8_nameOf_141 (by decide) ?_
            refine z_goto (tgt := 146) o dX8_nameOf_142 (by decide) ?_
            exact kret _ _ _ _ dX8_nameOf_146 ⟨rfl, by unfold sp_nm; first | contradiction | (simp [*]; done) | simp_all⟩
        · refine z_iconst (v := 0) o dX8_nameOf_131 (by decide) ?_
          refine z_goto (tgt := 146) o dX8_nameOf_132 (by decide) ?_
          exact kret _ _ _ _ dX8_nameOf_146 ⟨rfl, by unfold sp_nm; first | contradiction | (simp [*]; done) | simp_all⟩
      · exact absurd c32 (by decide)
    refine z_tcase 99 (tgt := 113) o dX8_nameOf_1 (by decide) (by decide) rfl (by decide) (fun c35 => ?_) (fun c35 => ?_)
    · refine z_aload_n (j := 0) o dX8_nameOf_113 rfl ?_
      refine zo_get (i := 82) o hB dX8_nameOf_114 zf_X8_139 rfl (by decide) rfl ?_
      refine zo_rw (y := 1) (hu2) ?_
      refine z_iconst (v := 1) o dX8_nameOf_117 (by decide) ?_
      refine z_icmpeq (tgt := 125) o dX8_nameOf_118 (by decide) (fun c36 => ?_) (fun c36 => ?_)
      · refine z_iload_n (j := 1) o dX8_nameOf_125 rfl ?_
        refine z_bipush (v := 99) o dX8_nameOf_126 (by decide) ?_
        refine z_icmpne (tgt := 135) o dX8_nameOf_128 (by decide) (fun c37 => ?_) (fun c37 => ?_)
        · refine z_iload_n (j := 1) o dX8_nameOf_135 rfl ?_
          refine z_bipush (v := 98) o dX8_nameOf_136 (by decide) ?_
          refine z_icmpne (tgt := 145) o dX8_nameOf_138 (by decide) (fun c38 => ?_) (fun c38 => ?_)
          · refine z_iconst (v := 2) o dX8_nameOf_145 (by decide) ?_
            exact kret _ _ _ _ dX8_nameOf_146 ⟨rfl, by unfold sp_nm; first | contradiction | (simp [*]; done) | simp_all⟩
          · refine z_iconst (v := 1) o dX8_nameOf_141 (by decide) ?_
            refine z_goto (tgt := 146) o dX8_nameOf_142 (by decide) ?_
            exact kret _ _ _ _ dX8_nameOf_146 ⟨rfl, by unfold sp_nm; first | contradiction | (simp [*]; done) | simp_all⟩
        · refine z_iconst (v := 0) o dX8_nameOf_131 (by decide) ?_
          refine z_goto (tgt := 146) o dX8_nameOf_132 (by decide) ?_
          exact kret _ _ _ _ dX8_nameOf_146 ⟨rfl, by unfold sp_nm; first | contradiction | (simp [*]; done) | simp_all⟩
      · exact absurd c36 (by decide)
    refine z_tcase 100 (tgt := 113) o dX8_nameOf_1 (by decide) (by decide) rfl (by decide) (fun c39 => ?_) (fun c39 => ?_)
    · refine z_aload_n (j := 0) o dX8_nameOf_113 rfl ?_
      refine zo_get (i := 82) o hB dX8_nameOf_114 zf_X8_139 rfl (by decide) rfl ?_
      refine zo_rw (y := 1) (hu2) ?_
      refine z_iconst (v := 1) o dX8_nameOf_117 (by decide) ?_
      refine z_icmpeq (tgt := 125) o dX8_nameOf_118 (by decide) (fun c40 => ?_) (fun c40 => ?_)
      · refine z_iload_n (j := 1) o dX8_nameOf_125 rfl ?_
        refine z_bipush (v := 99) o dX8_nameOf_126 (by decide) ?_
        refine z_icmpne (tgt := 135) o dX8_nameOf_128 (by decide) (fun c41 => ?_) (fun c41 => ?_)
        · refine z_iload_n (j := 1) o dX8_nameOf_135 rfl ?_
          refine z_bipush (v := 98) o dX8_nameOf_136 (by decide) ?_
          refine z_icmpne (tgt := 145) o dX8_nameOf_138 (by decide) (fun c42 => ?_) (fun c42 => ?_)
          · refine z_iconst (v := 2) o dX8_nameOf_145 (by decide) ?_
            exact kret _ _ _ _ dX8_nameOf_146 ⟨rfl, by unfold sp_nm; first | contradiction | (simp [*]; done) | simp_all⟩
          · refine z_iconst (v := 1) o dX8_nameOf_141 (by decide) ?_
            refine z_goto (tgt := 146) o dX8_nameOf_142 (by decide) ?_
            exact kret _ _ _ _ dX8_nameOf_146 ⟨rfl, by unfold sp_nm; first | contradiction | (simp [*]; done) | simp_all⟩
        · refine z_iconst (v := 0) o dX8_nameOf_131 (by decide) ?_
          refine z_goto (tgt := 146) o dX8_nameOf_132 (by decide) ?_
          exact kret _ _ _ _ dX8_nameOf_146 ⟨rfl, by unfold sp_nm; first | contradiction | (simp [*]; done) | simp_all⟩
      · exact absurd c40 (by decide)
    refine z_tcase 101 (tgt := 147) o dX8_nameOf_1 (by decide) (by decide) rfl (by decide) (fun c43 => ?_) (fun c43 => ?_)
    · refine z_iconst (v := (-1)) o dX8_nameOf_147 (by decide) ?_
      exact kret _ _ _ _ dX8_nameOf_148 ⟨rfl, by unfold sp_nm; first | contradiction | (simp [*]; done) | simp_all⟩
    refine z_tcase 102 (tgt := 147) o dX8_nameOf_1 (by decide) (by decide) rfl (by decide) (fun c44 => ?_) (fun c44 => ?_)
    · refine z_iconst (v := (-1)) o dX8_nameOf_147 (by decide) ?_
      exact kret _ _ _ _ dX8_nameOf_148 ⟨rfl, by unfold sp_nm; first | contradiction | (simp [*]; done) | simp_all⟩
    refine z_tcase 103 (tgt := 147) o dX8_nameOf_1 (by decide) (by decide) rfl (by decide) (fun c45 => ?_) (fun c45 => ?_)
    · refine z_iconst (v := (-1)) o dX8_nameOf_147 (by decide) ?_
      exact kret _ _ _ _ dX8_nameOf_148 ⟨rfl, by unfold sp_nm; first | contradiction | (simp [*]; done) | simp_all⟩
    refine z_tcase 104 (tgt := 147) o dX8_nameOf_1 (by decide) (by decide) rfl (by decide) (fun c46 => ?_) (fun c46 => ?_)
    · refine z_iconst (v := (-1)) o dX8_nameOf_147 (by decide) ?_
      exact kret _ _ _ _ dX8_nameOf_148 ⟨rfl, by unfold sp_nm; first | contradiction | (simp [*]; done) | simp_all⟩
    refine z_tcase 105 (tgt := 147) o dX8_nameOf_1 (by decide) (by decide) rfl (by decide) (fun c47 => ?_) (fun c47 => ?_)
    · refine z_iconst (v := (-1)) o dX8_nameOf_147 (by decide) ?_
      exact kret _ _ _ _ dX8_nameOf_148 ⟨rfl, by unfold sp_nm; first | contradiction | (simp [*]; done) | simp_all⟩
    refine z_tcase 106 (tgt := 147) o dX8_nameOf_1 (by decide) (by decide) rfl (by decide) (fun c48 => ?_) (fun c48 => ?_)
    · refine z_iconst (v := (-1)) o dX8_nameOf_147 (by decide) ?_
      exact kret _ _ _ _ dX8_nameOf_148 ⟨rfl, by unfold sp_nm; first | contradiction | (simp [*]; done) | simp_all⟩
    refine z_tcase 107 (tgt := 80) o dX8_nameOf_1 (by decide) (by decide) rfl (by decide) (fun c49 => ?_) (fun c49 => ?_)
    · refine z_aload_n (j := 0) o dX8_nameOf_80 rfl ?_
      refine zo_get (i := 82) o hB dX8_nameOf_81 zf_X8_139 rfl (by decide) rfl ?_
      refine zo_rw (y := 1) (hu2) ?_
      refine z_ifeq (tgt := 91) o dX8_nameOf_84 (by decide) (fun c50 => ?_) (fun c50 => ?_)
      · exact absurd c50 (by decide)
      · refine z_iconst (v := (-1)) o dX8_nameOf_87 (by decide) ?_
        refine z_goto (tgt := 112) o dX8_nameOf_88 (by decide) ?_
        exact kret _ _ _ _ dX8_nameOf_112 ⟨rfl, by unfold sp_nm; first | contradiction | (simp [*]; done) | simp_all⟩
    refine z_tcase 108 (tgt := 147) o dX8_nameOf_1 (by decide) (by decide) rfl (by decide) (fun c51 => ?_) (fun c51 => ?_)
    · refine z_iconst (v := (-1)) o dX8_nameOf_147 (by decide) ?_
      exact kret _ _ _ _ dX8_nameOf_148 ⟨rfl, by unfold sp_nm; first | contradiction | (simp [*]; done) | simp_all⟩
    refine z_tcase 109 (tgt := 147) o dX8_nameOf_1 (by decide) (by decide) rfl (by decide) (fun c52 => ?_) (fun c52 => ?_)
    · refine z_iconst (v := (-1)) o dX8_nameOf_147 (by decide) ?_
      exact kret _ _ _ _ dX8_nameOf_148 ⟨rfl, by unfold sp_nm; first | contradiction | (simp [*]; done) | simp_all⟩
    refine z_tcase 110 (tgt := 147) o dX8_nameOf_1 (by decide) (by decide) rfl (by decide) (fun c53 => ?_) (fun c53 => ?_)
    · refine z_iconst (v := (-1)) o dX8_nameOf_147 (by decide) ?_
      exact kret _ _ _ _ dX8_nameOf_148 ⟨rfl, by unfold sp_nm; first | contradiction | (simp [*]; done) | simp_all⟩
    refine z_tcase 111 (tgt := 147) o dX8_nameOf_1 (by decide) (by decide) rfl (by decide) (fun c54 => ?_) (fun c54 => ?_)
    · refine z_iconst (v := (-1)) o dX8_nameOf_147 (by decide) ?_
      exact kret _ _ _ _ dX8_nameOf_148 ⟨rfl, by unfold sp_nm; first | contradiction | (simp [*]; done) | simp_all⟩
    refine z_tcase 112 (tgt := 80) o dX8_nameOf_1 (by decide) (by decide) rfl (by decide) (fun c55 => ?_) (fun c55 => ?_)
    · refine z_aload_n (j := 0) o dX8_nameOf_80 rfl ?_
      refine zo_get (i := 82) o hB dX8_nameOf_81 zf_X8_139 rfl (by decide) rfl ?_
      refine zo_rw (y := 1) (hu2) ?_
      refine z_ifeq (tgt := 91) o dX8_nameOf_84 (by decide) (fun c56 => ?_) (fun c56 => ?_)
      · exact absurd c56 (by decide)
      · refine z_iconst (v := (-1)) o dX8_nameOf_87 (by decide) ?_
        refine z_goto (tgt := 112) o dX8_nameOf_88 (by decide) ?_
        exact kret _ _ _ _ dX8_nameOf_112 ⟨rfl, by unfold sp_nm; first | contradiction | (simp [*]; done) | simp_all⟩
    refine z_tdef (tgt := 147) o dX8_nameOf_1 (by have := lv_neT (a := 97) c29 rfl; have := lv_neT (a := 98) c31 rfl; have := lv_neT (a := 99) c35 rfl; have := lv_neT (a := 100) c39 rfl; have := lv_neT (a := 101) c43 rfl; have := lv_neT (a := 102) c44 rfl; have := lv_neT (a := 103) c45 rfl; have := lv_neT (a := 104) c46 rfl; have := lv_neT (a := 105) c47 rfl; have := lv_neT (a := 106) c48 rfl; have := lv_neT (a := 107) c49 rfl; have := lv_neT (a := 108) c51 rfl; have := lv_neT (a := 109) c52 rfl; have := lv_neT (a := 110) c53 rfl; have := lv_neT (a := 111) c54 rfl; have := lv_neT (a := 112) c55 rfl; omega) (by decide) ?_
    refine z_iconst (v := (-1)) o dX8_nameOf_147 (by decide) ?_
    exact kret _ _ _ _ dX8_nameOf_148 ⟨rfl, by unfold sp_nm; first | contradiction | (simp [*]; done) | simp_all⟩

