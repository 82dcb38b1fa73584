/-! the class: the reader (1) -/
set_option maxHeartbeats 4000000 in
set_option maxRecDepth 100000 in
theorem c_X5_sign {B : zB} (hB : znn B = 95) (M : zM) (N : zN) (ρ : Nat → Int32) (u h : Nat) (hok : zOkR ρ) (hx : zTx ρ u M) (hh : M 67 4 = nI h) (hh60 : h ≤ 60) : zCi B (zg B M N) yX5_sign cX5_sign 1 (some .char) 0 [zref B 67] (fun r g' => g' = zg B M N ∧ r = sp_sg (sp_lk ρ h)) := by
  refine zCi_of (by decide +kernel) (Nat.le_of_ble_eq_true rfl) .char rfl (fun r _ hp => by obtain ⟨b, hb, e⟩ := sg_le (h := h) hok; rw [hp.2, e]; exact by_nch ⟨b, hb⟩) ?_
  intro X o kret
  show zW X B (zg B M N) 0 [(0, zref B 67)] []
  obtain ⟨hnt, hnt60⟩ := ok_nt2 hok
  obtain ⟨hx2, hx3, hx5, hx⟩ := hx
  refine z_aload_n (j := 0) o dX5_sign_0 rfl ?_
  refine zo_get (i := 67) o hB dX5_sign_1 zf_X5_35 rfl (by decide) (rfl) ?_
  refine zo_rw (y := nI h) (hh) ?_
  refine z_aload_n (j := 0) o dX5_sign_4 rfl ?_
  refine zo_get (i := 67) o hB dX5_sign_5 zf_X5_31 rfl (by decide) (rfl) ?_
  refine zo_rw (y := nI (sp_nt ρ)) (hx3) ?_
  refine z_icmpge (tgt := 28) o dX5_sign_8 (by decide) (fun c1 => ?_) (fun c1 => ?_)
  · have hge : ¬ h < sp_nt ρ := fun q => c1 (nI_lt q (by omega))
    refine z_iconst (v := 0) o dX5_sign_28 (by decide) ?_
    exact kret _ _ _ _ dX5_sign_29 ⟨rfl, by unfold sp_lk sp_sg; rw [if_neg hge, if_pos rfl]⟩
  · have hlt : h < sp_nt ρ := (nI_ltI (by omega) (by omega)).mp c1
    obtain ⟨e1, l1⟩ := sg_v hok hlt
    refine z_aload_n (j := 0) o dX5_sign_11 rfl ?_
    refine zo_get (i := 67) o hB dX5_sign_12 zf_X5_15 rfl (by decide) (by show some (zref B (if M 67 2 = 0 then 69 else 5)) = _; rw [hx2]) ?_
    refine z_aload_n (j := 0) o dX5_sign_15 rfl ?_
    refine zo_get (i := 67) o hB dX5_sign_16 zf_X5_35 rfl (by decide) (rfl) ?_
    refine zo_rw (y := nI h) (hh) ?_
    refine zo_bald (i := 5) (j := h) o hB dX5_sign_19 rfl (show h < 60 by omega) (by decide) ?_
    refine z_sipush (v := 255) o dX5_sign_20 (by decide) ?_
    refine z_iand o dX5_sign_23 ?_
    refine z_i2c o dX5_sign_24 ?_
    refine zo_rw (y := ρ (198 + h)) (by rw [hx h (by omega), by_and l1, by_ch l1]) ?_
    refine z_goto (tgt := 29) o dX5_sign_25 (by decide) ?_
    exact kret _ _ _ _ dX5_sign_29 ⟨rfl, e1.symm⟩

set_option maxHeartbeats 4000000 in
set_option maxRecDepth 100000 in
theorem c_X5_isDigit {B : zB} (hB : znn B = 95) (M : zM) (N : zN) (x : Int32) : zCi B (zg B M N) yX5_isDigit cX5_isDigit 1 (some .boolean) 0 [.int x] (fun r g' => g' = zg B M N ∧ r = zin x 48 57) := by
  refine zCi_of (by decide +kernel) (Nat.le_of_ble_eq_true rfl) .boolean rfl (fun r _ h => zin_z r (by rw [h.2]; exact zin_01 _ _ _)) ?_
  intro X o kret
  show zW X B (zg B M N) 0 [(0, .int x)] []
  refine z_iload_n (j := 0) o dX5_isDigit_0 rfl ?_
  refine z_bipush (v := 48) o dX5_isDigit_1 (by decide) ?_
  refine z_icmplt (tgt := 16) o dX5_isDigit_3 (by decide) (fun c1 => ?_) (fun c1 => ?_)
  · refine z_iconst (v := 0) o dX5_isDigit_16 (by decide) ?_
    exact kret _ _ _ _ dX5_isDigit_17 ⟨rfl, by unfold zin; simp [*]⟩
  · refine z_iload_n (j := 0) o dX5_isDigit_6 rfl ?_
    refine z_bipush (v := 57) o dX5_isDigit_7 (by decide) ?_
    refine z_icmpgt (tgt := 16) o dX5_isDigit_9 (by decide) (fun c2 => ?_) (fun c2 => ?_)
    · refine z_iconst (v := 0) o dX5_isDigit_16 (by decide) ?_
      exact kret _ _ _ _ dX5_isDigit_17 ⟨rfl, by unfold zin; simp [*]⟩
    · refine z_iconst (v := 1) o dX5_isDigit_12 (by decide) ?_
      refine z_goto (tgt := 17) o dX5_isDigit_13 (by decide) ?_
      exact kret _ _ _ _ dX5_isDigit_17 ⟨rfl, by unfold zin; simp [*]⟩

set_option maxHeartbeats 4000000 in
set_option maxRecDepth 100000 in
theorem c_X5_joins {B : zB} (hB : znn B = 95) (M : zM) (N : zN) (L : Nat) (x : Int32) (hL : L < 5) : zCi B (zg B M N) yX5_joins cX5_joins 2 (some .boolean) 0 [.int (nI L), .int x] (fun r g' => g' = zg B M N ∧ r = zb (sp_jo L x)) := by
  refine zCi_of (by decide +kernel) (Nat.le_of_ble_eq_true rfl) .boolean rfl (fun r _ h => zin_z r (by rw [h.2]; exact zb_01 _)) ?_
  intro X o kret
  show zW X B (zg B M N) 0 [(0, .int (nI L)), (1, .int x)] []
  rcases (show L = 0 ∨ L = 1 ∨ L = 2 ∨ L = 3 ∨ L = 4 by omega) with rfl | rfl | rfl | rfl | rfl
  · show zW X B (zg B M N) 0 [(0, .int 0), (1, .int x)] []
    refine z_iload_n (j := 1) o dX5_joins_0 rfl ?_
    refine z_lcase 37 (off := 134) (tgt := 135) o dX5_joins_1 (by decide) (by decide) (by decide) (fun c1 => ?_) (fun c1 => ?_)
    · refine z_iload_n (j := 0) o dX5_joins_135 rfl ?_
      refine z_iconst (v := 4) o dX5_joins_136 (by decide) ?_
      refine z_icmpne (tgt := 144) o dX5_joins_137 (by decide) (fun c2 => ?_) (fun c2 => ?_)
      · refine z_iconst (v := 0) o dX5_joins_144 (by decide) ?_
        exact kret _ _ _ _ dX5_joins_145 ⟨rfl, by rw [show x = 37 from c1]; decide⟩
      · exact absurd c2 (by decide)
    refine z_lcase 38 (off := 101) (tgt := 102) o dX5_joins_1 (by decide) (by decide) (by decide) (fun c3 => ?_) (fun c3 => ?_)
    · refine z_iload_n (j := 0) o dX5_joins_102 rfl ?_
      refine z_iconst (v := 1) o dX5_joins_103 (by decide) ?_
      refine z_icmpne (tgt := 111) o dX5_joins_104 (by decide) (fun c4 => ?_) (fun c4 => ?_)
      · refine z_iconst (v := 0) o dX5_joins_111 (by decide) ?_
        exact kret _ _ _ _ dX5_joins_112 ⟨rfl, by rw [show x = 38 from c3]; decide⟩
      · exact absurd c4 (by decide)
    refine z_lcase 42 (off := 134) (tgt := 135) o dX5_joins_1 (by decide) (by decide) (by decide) (fun c5 => ?_) (fun c5 => ?_)
    · refine z_iload_n (j := 0) o dX5_joins_135 rfl ?_
      refine z_iconst (v := 4) o dX5_joins_136 (by decide) ?_
      refine z_icmpne (tgt := 144) o dX5_joins_137 (by decide) (fun c6 => ?_) (fun c6 => ?_)
      · refine z_iconst (v := 0) o dX5_joins_144 (by decide) ?_
        exact kret _ _ _ _ dX5_joins_145 ⟨rfl, by rw [show x = 42 from c5]; decide⟩
      · exact absurd c6 (by decide)
    refine z_lcase 43 (off := 123) (tgt := 124) o dX5_joins_1 (by decide) (by decide) (by decide) (fun c7 => ?_) (fun c7 => ?_)
    · refine z_iload_n (j := 0) o dX5_joins_124 rfl ?_
      refine z_iconst (v := 3) o dX5_joins_125 (by decide) ?_
      refine z_icmpne (tgt := 133) o dX5_joins_126 (by decide) (fun c8 => ?_) (fun c8 => ?_)
      · refine z_iconst (v := 0) o dX5_joins_133 (by decide) ?_
        exact kret _ _ _ _ dX5_joins_134 ⟨rfl, by rw [show x = 43 from c7]; decide⟩
      · exact absurd c8 (by decide)
    refine z_lcase 45 (off := 123) (tgt := 124) o dX5_joins_1 (by decide) (by decide) (by decide) (fun c9 => ?_) (fun c9 => ?_)
    · refine z_iload_n (j := 0) o dX5_joins_124 rfl ?_
      refine z_iconst (v := 3) o dX5_joins_125 (by decide) ?_
      refine z_icmpne (tgt := 133) o dX5_joins_126 (by decide) (fun c10 => ?_) (fun c10 => ?_)
      · refine z_iconst (v := 0) o dX5_joins_133 (by decide) ?_
        exact kret _ _ _ _ dX5_joins_134 ⟨rfl, by rw [show x = 45 from c9]; decide⟩
      · exact absurd c10 (by decide)
    refine z_lcase 47 (off := 134) (tgt := 135) o dX5_joins_1 (by decide) (by decide) (by decide) (fun c11 => ?_) (fun c11 => ?_)
    · refine z_iload_n (j := 0) o dX5_joins_135 rfl ?_
      refine z_iconst (v := 4) o dX5_joins_136 (by decide) ?_
      refine z_icmpne (tgt := 144) o dX5_joins_137 (by decide) (fun c12 => ?_) (fun c12 => ?_)
      · refine z_iconst (v := 0) o dX5_joins_144 (by decide) ?_
        exact kret _ _ _ _ dX5_joins_145 ⟨rfl, by rw [show x = 47 from c11]; decide⟩
      · exact absurd c12 (by decide)
    refine z_lcase 60 (off := 112) (tgt := 113) o dX5_joins_1 (by decide) (by decide) (by decide) (fun c13 => ?_) (fun c13 => ?_)
    · refine z_iload_n (j := 0) o dX5_joins_113 rfl ?_
      refine z_iconst (v := 2) o dX5_joins_114 (by decide) ?_
      refine z_icmpne (tgt := 122) o dX5_joins_115 (by decide) (fun c14 => ?_) (fun c14 => ?_)
      · refine z_iconst (v := 0) o dX5_joins_122 (by decide) ?_
        exact kret _ _ _ _ dX5_joins_123 ⟨rfl, by rw [show x = 60 from c13]; decide⟩
      · exact absurd c14 (by decide)
    refine z_lcase 61 (off := 112) (tgt := 113) o dX5_joins_1 (by decide) (by decide) (by decide) (fun c15 => ?_) (fun c15 => ?_)
    · refine z_iload_n (j := 0) o dX5_joins_113 rfl ?_
      refine z_iconst (v := 2) o dX5_joins_114 (by decide) ?_
      refine z_icmpne (tgt := 122) o dX5_joins_115 (by decide) (fun c16 => ?_) (fun c16 => ?_)
      · refine z_iconst (v := 0) o dX5_joins_122 (by decide) ?_
        exact kret _ _ _ _ dX5_joins_123 ⟨rfl, by rw [show x = 61 from c15]; decide⟩
      · exact absurd c16 (by decide)
    refine z_lcase 62 (off := 112) (tgt := 113) o dX5_joins_1 (by decide) (by decide) (by decide) (fun c17 => ?_) (fun c17 => ?_)
    · refine z_iload_n (j := 0) o dX5_joins_113 rfl ?_
      refine z_iconst (v := 2) o dX5_joins_114 (by decide) ?_
      refine z_icmpne (tgt := 122) o dX5_joins_115 (by decide) (fun c18 => ?_) (fun c18 => ?_)
      · refine z_iconst (v := 0) o dX5_joins_122 (by decide) ?_
        exact kret _ _ _ _ dX5_joins_123 ⟨rfl, by rw [show x = 62 from c17]; decide⟩
      · exact absurd c18 (by decide)
    refine z_lcase 124 (off := 91) (tgt := 92) o dX5_joins_1 (by decide) (by decide) (by decide) (fun c19 => ?_) (fun c19 => ?_)
    · refine z_iload_n (j := 0) o dX5_joins_92 rfl ?_
      refine z_ifne (tgt := 100) o dX5_joins_93 (by decide) (fun c20 => ?_) (fun c20 => ?_)
      · exact absurd c20 (by decide)
      · refine z_iconst (v := 1) o dX5_joins_96 (by decide) ?_
        refine z_goto (tgt := 101) o dX5_joins_97 (by decide) ?_
        exact kret _ _ _ _ dX5_joins_101 ⟨rfl, by rw [show x = 124 from c19]; decide⟩
    refine z_ldef (tgt := 146) o dX5_joins_1 (by decide) (by show Op.lookupswitch.offset [(37, 134), (38, 101), (42, 134), (43, 123), (45, 123), (47, 134), (60, 112), (61, 112), (62, 112), (124, 91)] _ _ = _; rw [lv_osw (a := 37) c1 rfl, lv_osw (a := 38) c3 rfl, lv_osw (a := 42) c5 rfl, lv_osw (a := 43) c7 rfl, lv_osw (a := 45) c9 rfl, lv_osw (a := 47) c11 rfl, lv_osw (a := 60) c13 rfl, lv_osw (a := 61) c15 rfl, lv_osw (a := 62) c17 rfl, lv_osw (a := 124) c19 rfl]; rfl) (by decide) ?_
    refine z_iconst (v := 0) o dX5_joins_146 (by decide) ?_
    exact kret _ _ _ _ dX5_joins_147 ⟨rfl, by unfold sp_jo; simp [show ¬ x = 37 from c1, show ¬ x = 38 from c3, show ¬ x = 42 from c5, show ¬ x = 43 from c7, show ¬ x = 45 from c9, show ¬ x = 47 from c11, show ¬ x = 60 from c13, show ¬ x = 61 from c15, show ¬ x = 62 from c17, show ¬ x = 124 from c19, zb]⟩
  · show zW X B (zg B M N) 0 [(0, .int 1), (1, .int x)] []
    refine z_iload_n (j := 1) o dX5_joins_0 rfl ?_
    refine z_lcase 37 (off := 134) (tgt := 135) o dX5_joins_1 (by decide) (by decide) (by decide) (fun c21 => ?_) (fun c21 => ?_)
    · refine z_iload_n (j := 0) o dX5_joins_135 rfl ?_
      refine z_iconst (v := 4) o dX5_joins_136 (by decide) ?_
      refine z_icmpne (tgt := 144) o dX5_joins_137 (by decide) (fun c22 => ?_) (fun c22 => ?_)
      · refine z_iconst (v := 0) o dX5_joins_144 (by decide) ?_
        exact kret _ _ _ _ dX5_joins_145 ⟨rfl, by rw [show x = 37 from c21]; decide⟩
      · exact absurd c22 (by decide)
    refine z_lcase 38 (off := 101) (tgt := 102) o dX5_joins_1 (by decide) (by decide) (by decide) (fun c23 => ?_) (fun c23 => ?_)
    · refine z_iload_n (j := 0) o dX5_joins_102 rfl ?_
      refine z_iconst (v := 1) o dX5_joins_103 (by decide) ?_
      refine z_icmpne (tgt := 111) o dX5_joins_104 (by decide) (fun c24 => ?_) (fun c24 => ?_)
      · exact absurd c24 (by decide)
      · refine z_iconst (v := 1) o dX5_joins_107 (by decide) ?_
        refine z_goto (tgt := 112) o dX5_joins_108 (by decide) ?_
        exact kret _ _ _ _ dX5_joins_112 ⟨rfl, by rw [show x = 38 from c23]; decide⟩
    refine z_lcase 42 (off := 134) (tgt := 135) o dX5_joins_1 (by decide) (by decide) (by decide) (fun c25 => ?_) (fun c25 => ?_)
    · refine z_iload_n (j := 0) o dX5_joins_135 rfl ?_
      refine z_iconst (v := 4) o dX5_joins_136 (by decide) ?_
      refine z_icmpne (tgt := 144) o dX5_joins_137 (by decide) (fun c26 => ?_) (fun c26 => ?_)
      · refine z_iconst (v := 0) o dX5_joins_144 (by decide) ?_
        exact kret _ _ _ _ dX5_joins_145 ⟨rfl, by rw [show x = 42 from c25]; decide⟩
      · exact absurd c26 (by decide)
    refine z_lcase 43 (off := 123) (tgt := 124) o dX5_joins_1 (by decide) (by decide) (by decide) (fun c27 => ?_) (fun c27 => ?_)
    · refine z_iload_n (j := 0) o dX5_joins_124 rfl ?_
      refine z_iconst (v := 3) o dX5_joins_125 (by decide) ?_
      refine z_icmpne (tgt := 133) o dX5_joins_126 (by decide) (fun c28 => ?_) (fun c28 => ?_)
      · refine z_iconst (v := 0) o dX5_joins_133 (by decide) ?_
        exact kret _ _ _ _ dX5_joins_134 ⟨rfl, by rw [show x = 43 from c27]; decide⟩
      · exact absurd c28 (by decide)
    refine z_lcase 45 (off := 123) (tgt := 124) o dX5_joins_1 (by decide) (by decide) (by decide) (fun c29 => ?_) (fun c29 => ?_)
    · refine z_iload_n (j := 0) o dX5_joins_124 rfl ?_
      refine z_iconst (v := 3) o dX5_joins_125 (by decide) ?_
      refine z_icmpne (tgt := 133) o dX5_joins_126 (by decide) (fun c30 => ?_) (fun c30 => ?_)
      · refine z_iconst (v := 0) o dX5_joins_133 (by decide) ?_
        exact kret _ _ _ _ dX5_joins_134 ⟨rfl, by rw [show x = 45 from c29]; decide⟩
      · exact absurd c30 (by decide)
    refine z_lcase 47 (off := 134) (tgt := 135) o dX5_joins_1 (by decide) (by decide) (by decide) (fun c31 => ?_) (fun c31 => ?_)
    · refine z_iload_n (j := 0) o dX5_joins_135 rfl ?_
      refine z_iconst (v := 4) o dX5_joins_136 (by decide) ?_
      refine z_icmpne (tgt := 144) o dX5_joins_137 (by decide) (fun c32 => ?_) (fun c32 => ?_)
      · refine z_iconst (v := 0) o dX5_joins_144 (by decide) ?_
        exact kret _ _ _ _ dX5_joins_145 ⟨rfl, by rw [show x = 47 from c31]; decide⟩
      · exact absurd c32 (by decide)
    refine z_lcase 60 (off := 112) (tgt := 113) o dX5_joins_1 (by decide) (by decide) (by decide) (fun c33 => ?_) (fun c33 => ?_)
    · refine z_iload_n (j := 0) o dX5_joins_113 rfl ?_
      refine z_iconst (v := 2) o dX5_joins_114 (by decide) ?_
      refine z_icmpne (tgt := 122) o dX5_joins_115 (by decide) (fun c34 => ?_) (fun c34 => ?_)
      · refine z_iconst (v := 0) o dX5_joins_122 (by decide) ?_
        exact kret _ _ _ _ dX5_joins_123 ⟨rfl, by rw [show x = 60 from c33]; decide⟩
      · exact absurd c34 (by decide)
    refine z_lcase 61 (off := 112) (tgt := 113) o dX5_joins_1 (by decide) (by decide) (by decide) (fun c35 => ?_) (fun c35 => ?_)
    · refine z_iload_n (j := 0) o dX5_joins_113 rfl ?_
      refine z_iconst (v := 2) o dX5_joins_114 (by decide) ?_
      refine z_icmpne (tgt := 122) o dX5_joins_115 (by decide) (fun c36 => ?_) (fun c36 => ?_)
      · refine z_iconst (v := 0) o dX5_joins_122 (by decide) ?_
        exact kret _ _ _ _ dX5_joins_123 ⟨rfl, by rw [show x = 61 from c35]; decide⟩
      · exact absurd c36 (by decide)
    refine z_lcase 62 (off := 112) (tgt := 113) o dX5_joins_1 (by decide) (by decide) (by decide) (fun c37 => ?_) (fun c37 => ?_)
    · refine z_iload_n (j := 0) o dX5_joins_113 rfl ?_
      refine z_iconst (v := 2) o dX5_joins_114 (by decide) ?_
      refine z_icmpne (tgt := 122) o dX5_joins_115 (by decide) (fun c38 => ?_) (fun c38 => ?_)
      · refine z_iconst (v := 0) o dX5_joins_122 (by decide) ?_
        exact kret _ _ _ _ dX5_joins_123 ⟨rfl, by rw [show x = 62 from c37]; decide⟩
      · exact absurd c38 (by decide)
    refine z_lcase 124 (off := 91) (tgt := 92) o dX5_joins_1 (by decide) (by decide) (by decide) (fun c39 => ?_) (fun c39 => ?_)
    · refine z_iload_n (j := 0) o dX5_joins_92 rfl ?_
      refine z_ifne (tgt := 100) o dX5_joins_93 (by decide) (fun c40 => ?_) (fun c40 => ?_)
      · refine z_iconst (v := 0) o dX5_joins_100 (by decide) ?_
        exact kret _ _ _ _ dX5_joins_101 ⟨rfl, by rw [show x = 124 from c39]; decide⟩
      · exact absurd c40 (by decide)
    refine z_ldef (tgt := 146) o dX5_joins_1 (by decide) (by show Op.lookupswitch.offset [(37, 134), (38, 101), (42, 134), (43, 123), (45, 123), (47, 134), (60, 112), (61, 112), (62, 112), (124, 91)] _ _ = _; rw [lv_osw (a := 37) c21 rfl, lv_osw (a := 38) c23 rfl, lv_osw (a := 42) c25 rfl, lv_osw (a := 43) c27 rfl, lv_osw (a := 45) c29 rfl, lv_osw (a := 47) c31 rfl, lv_osw (a := 60) c33 rfl, lv_osw (a := 61) c35 rfl, lv_osw (a := 62) c37 rfl, lv_osw (a := 124) c39 rfl]; rfl) (by decide) ?_
    refine z_iconst (v := 0) o dX5_joins_146 (by decide) ?_
    exact kret _ _ _ _ dX5_joins_147 ⟨rfl, by unfold sp_jo; simp [show ¬ x = 37 from c21, show ¬ x = 38 from c23, show ¬ x = 42 from c25, show ¬ x = 43 from c27, show ¬ x = 45 from c29, show ¬ x = 47 from c31, show ¬ x = 60 from c33, show ¬ x = 61 from c35, show ¬ x = 62 from c37, show ¬ x = 124 from c39, zb]⟩
  · show zW X B (zg B M N) 0 [(0, .int 2), (1, .int x)] []
    refine z_iload_n (j := 1) o dX5_joins_0 rfl ?_
    refine z_lcase 37 (off := 134) (tgt := 135) o dX5_joins_1 (by decide) (by decide) (by decide) (fun c41 => ?_) (fun c41 => ?_)
    · refine z_iload_n (j := 0) o dX5_joins_135 rfl ?_
      refine z_iconst (v := 4) o dX5_joins_136 (by decide) ?_
      refine z_icmpne (tgt := 144) o dX5_joins_137 (by decide) (fun c42 => ?_) (fun c42 => ?_)
      · refine z_iconst (v := 0) o dX5_joins_144 (by decide) ?_
        exact kret _ _ _ _ dX5_joins_145 ⟨rfl, by rw [show x = 37 from c41]; decide⟩
      · exact absurd c42 (by decide)
    refine z_lcase 38 (off := 101) (tgt := 102) o dX5_joins_1 (by decide) (by decide) (by decide) (fun c43 => ?_) (fun c43 => ?_)
    · refine z_iload_n (j := 0) o dX5_joins_102 rfl ?_
      refine z_iconst (v := 1) o dX5_joins_103 (by decide) ?_
      refine z_icmpne (tgt := 111) o dX5_joins_104 (by decide) (fun c44 => ?_) (fun c44 => ?_)
      · refine z_iconst (v := 0) o dX5_joins_111 (by decide) ?_
        exact kret _ _ _ _ dX5_joins_112 ⟨rfl, by rw [show x = 38 from c43]; decide⟩
      · exact absurd c44 (by decide)
    refine z_lcase 42 (off := 134) (tgt := 135) o dX5_joins_1 (by decide) (by decide) (by decide) (fun c45 => ?_) (fun c45 => ?_)
    · refine z_iload_n (j := 0) o dX5_joins_135 rfl ?_
      refine z_iconst (v := 4) o dX5_joins_136 (by decide) ?_
      refine z_icmpne (tgt := 144) o dX5_joins_137 (by decide) (fun c46 => ?_) (fun c46 => ?_)
      · refine z_iconst (v := 0) o dX5_joins_144 (by decide) ?_
        exact kret _ _ _ _ dX5_joins_145 ⟨rfl, by rw [show x = 42 from c45]; decide⟩
      · exact absurd c46 (by decide)
    refine z_lcase 43 (off := 123) (tgt := 124) o dX5_joins_1 (by decide) (by decide) (by decide) (fun c47 => ?_) (fun c47 => ?_)
    · refine z_iload_n (j := 0) o dX5_joins_124 rfl ?_
      refine z_iconst (v := 3) o dX5_joins_125 (by decide) ?_
      refine z_icmpne (tgt := 133) o dX5_joins_126 (by decide) (fun c48 => ?_) (fun c48 => ?_)
      · refine z_iconst (v := 0) o dX5_joins_133 (by decide) ?_
        exact kret _ _ _ _ dX5_joins_134 ⟨rfl, by rw [show x = 43 from c47]; decide⟩
      · exact absurd c48 (by decide)
    refine z_lcase 45 (off := 123) (tgt := 124) o dX5_joins_1 (by decide) (by decide) (by decide) (fun c49 => ?_) (fun c49 => ?_)
    · refine z_iload_n (j := 0) o dX5_joins_124 rfl ?_
      refine z_iconst (v := 3) o dX5_joins_125 (by decide) ?_
      refine z_icmpne (tgt := 133) o dX5_joins_126 (by decide) (fun c50 => ?_) (fun c50 => ?_)
      · refine z_iconst (v := 0) o dX5_joins_133 (by decide) ?_
        exact kret _ _ _ _ dX5_joins_134 ⟨rfl, by rw [show x = 45 from c49]; decide⟩
      · exact absurd c50 (by decide)
    refine z_lcase 47 (off := 134) (tgt := 135) o dX5_joins_1 (by decide) (by decide) (by decide) (fun c51 => ?_) (fun c51 => ?_)
    · refine z_iload_n (j := 0) o dX5_joins_135 rfl ?_
      refine z_iconst (v := 4) o dX5_joins_136 (by decide) ?_
      refine z_icmpne (tgt := 144) o dX5_joins_137 (by decide) (fun c52 => ?_) (fun c52 => ?_)
      · refine z_iconst (v := 0) o dX5_joins_144 (by decide) ?_
        exact kret _ _ _ _ dX5_joins_145 ⟨rfl, by rw [show x = 47 from c51]; decide⟩
      · exact absurd c52 (by decide)
    refine z_lcase 60 (off := 112) (tgt := 113) o dX5_joins_1 (by decide) (by decide) (by decide) (fun c53 => ?_) (fun c53 => ?_)
    · refine z_iload_n (j := 0) o dX5_joins_113 rfl ?_
      refine z_iconst (v := 2) o dX5_joins_114 (by decide) ?_
      refine z_icmpne (tgt := 122) o dX5_joins_115 (by decide) (fun c54 => ?_) (fun c54 => ?_)
      · exact absurd c54 (by decide)
      · refine z_iconst (v := 1) o dX5_joins_118 (by decide) ?_
        refine z_goto (tgt := 123) o dX5_joins_119 (by decide) ?_
        exact kret _ _ _ _ dX5_joins_123 ⟨rfl, by rw [show x = 60 from c53]; decide⟩
    refine z_lcase 61 (off := 112) (tgt := 113) o dX5_joins_1 (by decide) (by decide) (by decide) (fun c55 => ?_) (fun c55 => ?_)
    · refine z_iload_n (j := 0) o dX5_joins_113 rfl ?_
      refine z_iconst (v := 2) o dX5_joins_114 (by decide) ?_
      refine z_icmpne (tgt := 122) o dX5_joins_115 (by decide) (fun c56 => ?_) (fun c56 => ?_)
      · exact absurd c56 (by decide)
      · refine z_iconst (v := 1) o dX5_joins_118 (by decide) ?_
        refine z_goto (tgt := 123) o dX5_joins_119 (by decide) ?_
        exact kret _ _ _ _ dX5_joins_123 ⟨rfl, by rw [show x = 61 from c55]; decide⟩
    refine z_lcase 62 (off := 112) (tgt := 113) o dX5_joins_1 (by decide) (by decide) (by decide) (fun c57 => ?_) (fun c57 => ?_)
    · refine z_iload_n (j := 0) o dX5_joins_113 rfl ?_
      refine z_iconst (v := 2) o dX5_joins_114 (by decide) ?_
      refine z_icmpne (tgt := 122) o dX5_joins_115 (by decide) (fun c58 => ?_) (fun c58 => ?_)
      · exact absurd c58 (by decide)
      · refine z_iconst (v := 1) o dX5_joins_118 (by decide) ?_
        refine z_goto (tgt := 123) o dX5_joins_119 (by decide) ?_
        exact kret _ _ _ _ dX5_joins_123 ⟨rfl, by rw [show x = 62 from c57]; decide⟩
    refine z_lcase 124 (off := 91) (tgt := 92) o dX5_joins_1 (by decide) (by decide) (by decide) (fun c59 => ?_) (fun c59 => ?_)
    · refine z_iload_n (j := 0) o dX5_joins_92 rfl ?_
      refine z_ifne (tgt := 100) o dX5_joins_93 (by decide) (fun c60 => ?_) (fun c60 => ?_)
      · refine z_iconst (v := 0) o dX5_joins_100 (by decide) ?_
        exact kret _ _ _ _ dX5_joins_101 ⟨rfl, by rw [show x = 124 from c59]; decide⟩
      · exact absurd c60 (by decide)
    refine z_ldef (tgt := 146) o dX5_joins_1 (by decide) (by show Op.lookupswitch.offset [(37, 134), (38, 101), (42, 134), (43, 123), (45, 123), (47, 134), (60, 112), (61, 112), (62, 112), (124, 91)] _ _ = _; rw [lv_osw (a := 37) c41 rfl, lv_osw (a := 38) c43 rfl, lv_osw (a := 42) c45 rfl, lv_osw (a := 43) c47 rfl, lv_osw (a := 45) c49 rfl, lv_osw (a := 47) c51 rfl, lv_osw (a := 60) c53 rfl, lv_osw (a := 61) c55 rfl, lv_osw (a := 62) c57 rfl, lv_osw (a := 124) c59 rfl]; rfl) (by decide) ?_
    refine z_iconst (v := 0) o dX5_joins_146 (by decide) ?_
    exact kret _ _ _ _ dX5_joins_147 ⟨rfl, by unfold sp_jo; simp [show ¬ x = 37 from c41, show ¬ x = 38 from c43, show ¬ x = 42 from c45, show ¬ x = 43 from c47, show ¬ x = 45 from c49, show ¬ x = 47 from c51, show ¬ x = 60 from c53, show ¬ x = 61 from c55, show ¬ x = 62 from c57, show ¬ x = 124 from c59, zb]⟩
  · show zW X B (zg B M N) 0 [(0, .int 3), (1, .int x)] []
    refine z_iload_n (j := 1) o dX5_joins_0 rfl ?_
    refine z_lcase 37 (off := 134) (tgt := 135) o dX5_joins_1 (by decide) (by decide) (by decide) (fun c61 => ?_) (fun c61 => ?_)
    · refine z_iload_n (j := 0) o dX5_joins_135 rfl ?_
      refine z_iconst (v := 4) o dX5_joins_136 (by decide) ?_
      refine z_icmpne (tgt := 144) o dX5_joins_137 (by decide) (fun c62 => ?_) (fun c62 => ?_)
      · refine z_iconst (v := 0) o dX5_joins_144 (by decide) ?_
        exact kret _ _ _ _ dX5_joins_145 ⟨rfl, by rw [show x = 37 from c61]; decide⟩
      · exact absurd c62 (by decide)
    refine z_lcase 38 (off := 101) (tgt := 102) o dX5_joins_1 (by decide) (by decide) (by decide) (fun c63 => ?_) (fun c63 => ?_)
    · refine z_iload_n (j := 0) o dX5_joins_102 rfl ?_
      refine z_iconst (v := 1) o dX5_joins_103 (by decide) ?_
      refine z_icmpne (tgt := 111) o dX5_joins_104 (by decide) (fun c64 => ?_) (fun c64 => ?_)
      · refine z_iconst (v := 0) o dX5_joins_111 (by decide) ?_
        exact kret _ _ _ _ dX5_joins_112 ⟨rfl, by rw [show x = 38 from c63]; decide⟩
      · exact absurd c64 (by decide)
    refine z_lcase 42 (off := 134) (tgt := 135) o dX5_joins_1 (by decide) (by decide) (by decide) (fun c65 => ?_) (fun c65 => ?_)
    · refine z_iload_n (j := 0) o dX5_joins_135 rfl ?_
      refine z_iconst (v := 4) o dX5_joins_136 (by decide) ?_
      refine z_icmpne (tgt := 144) o dX5_joins_137 (by decide) (fun c66 => ?_) (fun c66 => ?_)
      · refine z_iconst (v := 0) o dX5_joins_144 (by decide) ?_
        exact kret _ _ _ _ dX5_joins_145 ⟨rfl, by rw [show x = 42 from c65]; decide⟩
      · exact absurd c66 (by decide)
    refine z_lcase 43 (off := 123) (tgt := 124) o dX5_joins_1 (by decide) (by decide) (by decide) (fun c67 => ?_) (fun c67 => ?_)
    · refine z_iload_n (j := 0) o dX5_joins_124 rfl ?_
      refine z_iconst (v := 3) o dX5_joins_125 (by decide) ?_
      refine z_icmpne (tgt := 133) o dX5_joins_126 (by decide) (fun c68 => ?_) (fun c68 => ?_)
      · exact absurd c68 (by decide)
      · refine z_iconst (v := 1) o dX5_joins_129 (by decide) ?_
        refine z_goto (tgt := 134) o dX5_joins_130 (by decide) ?_
        exact kret _ _ _ _ dX5_joins_134 ⟨rfl, by rw [show x = 43 from c67]; decide⟩
    refine z_lcase 45 (off := 123) (tgt := 124) o dX5_joins_1 (by decide) (by decide) (by decide) (fun c69 => ?_) (fun c69 => ?_)
    · refine z_iload_n (j := 0) o dX5_joins_124 rfl ?_
      refine z_iconst (v := 3) o dX5_joins_125 (by decide) ?_
      refine z_icmpne (tgt := 133) o dX5_joins_126 (by decide) (fun c70 => ?_) (fun c70 => ?_)
      · exact absurd c70 (by decide)
      · refine z_iconst (v := 1) o dX5_joins_129 (by decide) ?_
        refine z_goto (tgt := 134) o dX5_joins_130 (by decide) ?_
        exact kret _ _ _ _ dX5_joins_134 ⟨rfl, by rw [show x = 45 from c69]; decide⟩
    refine z_lcase 47 (off := 134) (tgt := 135) o dX5_joins_1 (by decide) (by decide) (by decide) (fun c71 => ?_) (fun c71 => ?_)
    · refine z_iload_n (j := 0) o dX5_joins_135 rfl ?_
      refine z_iconst (v := 4) o dX5_joins_136 (by decide) ?_
      refine z_icmpne (tgt := 144) o dX5_joins_137 (by decide) (fun c72 => ?_) (fun c72 => ?_)
      · refine z_iconst (v := 0) o dX5_joins_144 (by decide) ?_
        exact kret _ _ _ _ dX5_joins_145 ⟨rfl, by rw [show x = 47 from c71]; decide⟩
      · exact absurd c72 (by decide)
    refine z_lcase 60 (off := 112) (tgt := 113) o dX5_joins_1 (by decide) (by decide) (by decide) (fun c73 => ?_) (fun c73 => ?_)
    · refine z_iload_n (j := 0) o dX5_joins_113 rfl ?_
      refine z_iconst (v := 2) o dX5_joins_114 (by decide) ?_
      refine z_icmpne (tgt := 122) o dX5_joins_115 (by decide) (fun c74 => ?_) (fun c74 => ?_)
      · refine z_iconst (v := 0) o dX5_joins_122 (by decide) ?_
        exact kret _ _ _ _ dX5_joins_123 ⟨rfl, by rw [show x = 60 from c73]; decide⟩
      · exact absurd c74 (by decide)
    refine z_lcase 61 (off := 112) (tgt := 113) o dX5_joins_1 (by decide) (by decide) (by decide) (fun c75 => ?_) (fun c75 => ?_)
    · refine z_iload_n (j := 0) o dX5_joins_113 rfl ?_
      refine z_iconst (v := 2) o dX5_joins_114 (by decide) ?_
      refine z_icmpne (tgt := 122) o dX5_joins_115 (by decide) (fun c76 => ?_) (fun c76 => ?_)
      · refine z_iconst (v := 0) o dX5_joins_122 (by decide) ?_
        exact kret _ _ _ _ dX5_joins_123 ⟨rfl, by rw [show x = 61 from c75]; decide⟩
      · exact absurd c76 (by decide)
    refine z_lcase 62 (off := 112) (tgt := 113) o dX5_joins_1 (by decide) (by decide) (by decide) (fun c77 => ?_) (fun c77 => ?_)
    · refine z_iload_n (j := 0) o dX5_joins_113 rfl ?_
      refine z_iconst (v := 2) o dX5_joins_114 (by decide) ?_
      refine z_icmpne (tgt := 122) o dX5_joins_115 (by decide) (fun c78 => ?_) (fun c78 => ?_)
      · refine z_iconst (v := 0) o dX5_joins_122 (by decide) ?_
        exact kret _ _ _ _ dX5_joins_123 ⟨rfl, by rw [show x = 62 from c77]; decide⟩
      · exact absurd c78 (by decide)
    refine z_lcase 124 (off := 91) (tgt := 92) o dX5_joins_1 (by decide) (by decide) (by decide) (fun c79 => ?_) (fun c79 => ?_)
    · refine z_iload_n (j := 0) o dX5_joins_92 rfl ?_
      refine z_ifne (tgt := 100) o dX5_joins_93 (by decide) (fun c80 => ?_) (fun c80 => ?_)
      · refine z_iconst (v := 0) o dX5_joins_100 (by decide) ?_
        exact kret _ _ _ _ dX5_joins_101 ⟨rfl, by rw [show x = 124 from c79]; decide⟩
      · exact absurd c80 (by decide)
    refine z_ldef (tgt := 146) o dX5_joins_1 (by decide) (by show Op.lookupswitch.offset [(37, 134), (38, 101), (42, 134), (43, 123), (45, 123), (47, 134), (60, 112), (61, 112), (62, 112), (124, 91)] _ _ = _; rw [lv_osw (a := 37) c61 rfl, lv_osw (a := 38) c63 rfl, lv_osw (a := 42) c65 rfl, lv_osw (a := 43) c67 rfl, lv_osw (a := 45) c69 rfl, lv_osw (a := 47) c71 rfl, lv_osw (a := 60) c73 rfl, lv_osw (a := 61) c75 rfl, lv_osw (a := 62) c77 rfl, lv_osw (a := 124) c79 rfl]; rfl) (by decide) ?_
    refine z_iconst (v := 0) o dX5_joins_146 (by decide) ?_
    exact kret _ _ _ _ dX5_joins_147 ⟨rfl, by unfold sp_jo; simp [show ¬ x = 37 from c61, show ¬ x = 38 from c63, show ¬ x = 42 from c65, show ¬ x = 43 from c67, show ¬ x = 45 from c69, show ¬ x = 47 from c71, show ¬ x = 60 from c73, show ¬ x = 61 from c75, show ¬ x = 62 from c77, show ¬ x = 124 from c79, zb]⟩
  · show zW X B (zg B M N) 0 [(0, .int 4), (1, .int x)] []
    refine z_iload_n (j := 1) o dX5_joins_0 rfl ?_
    refine z_lcase 37 (off := 134) (tgt := 135) o dX5_joins_1 (by decide) (by decide) (by decide) (fun c81 => ?_) (fun c81 => ?_)
    · refine z_iload_n (j := 0) o dX5_joins_135 rfl ?_
      refine z_iconst (v := 4) o dX5_joins_136 (by decide) ?_
      refine z_icmpne (tgt := 144) o dX5_joins_137 (by decide) (fun c82 => ?_) (fun c82 => ?_)
      · exact absurd c82 (by decide)
      · refine z_iconst (v := 1) o dX5_joins_140 (by decide) ?_
        refine z_goto (tgt := 145) o dX5_joins_141 (by decide) ?_
        exact kret _ _ _ _ dX5_joins_145 ⟨rfl, by rw [show x = 37 from c81]; decide⟩
    refine z_lcase 38 (off := 101) (tgt := 102) o dX5_joins_1 (by decide) (by decide) (by decide) (fun c83 => ?_) (fun c83 => ?_)
    · refine z_iload_n (j := 0) o dX5_joins_102 rfl ?_
      refine z_iconst (v := 1) o dX5_joins_103 (by decide) ?_
      refine z_icmpne (tgt := 111) o dX5_joins_104 (by decide) (fun c84 => ?_) (fun c84 => ?_)
      · refine z_iconst (v := 0) o dX5_joins_111 (by decide) ?_
        exact kret _ _ _ _ dX5_joins_112 ⟨rfl, by rw [show x = 38 from c83]; decide⟩
      · exact absurd c84 (by decide)
    refine z_lcase 42 (off := 134) (tgt := 135) o dX5_joins_1 (by decide) (by decide) (by decide) (fun c85 => ?_) (fun c85 => ?_)
    · refine z_iload_n (j := 0) o dX5_joins_135 rfl ?_
      refine z_iconst (v := 4) o dX5_joins_136 (by decide) ?_
      refine z_icmpne (tgt := 144) o dX5_joins_137 (by decide) (fun c86 => ?_) (fun c86 => ?_)
      · exact absurd c86 (by decide)
      · refine z_iconst (v := 1) o dX5_joins_140 (by decide) ?_
        refine z_goto (tgt := 145) o dX5_joins_141 (by decide) ?_
        exact kret _ _ _ _ dX5_joins_145 ⟨rfl, by rw [show x = 42 from c85]; decide⟩
    refine z_lcase 43 (off := 123) (tgt := 124) o dX5_joins_1 (by decide) (by decide) (by decide) (fun c87 => ?_) (fun c87 => ?_)
    · refine z_iload_n (j := 0) o dX5_joins_124 rfl ?_
      refine z_iconst (v := 3) o dX5_joins_125 (by decide) ?_
      refine z_icmpne (tgt := 133) o dX5_joins_126 (by decide) (fun c88 => ?_) (fun c88 => ?_)
      · refine z_iconst (v := 0) o dX5_joins_133 (by decide) ?_
        exact kret _ _ _ _ dX5_joins_134 ⟨rfl, by rw [show x = 43 from c87]; decide⟩
      · exact absurd c88 (by decide)
    refine z_lcase 45 (off := 123) (tgt := 124) o dX5_joins_1 (by decide) (by decide) (by decide) (fun c89 => ?_) (fun c89 => ?_)
    · refine z_iload_n (j := 0) o dX5_joins_124 rfl ?_
      refine z_iconst (v := 3) o dX5_joins_125 (by decide) ?_
      refine z_icmpne (tgt := 133) o dX5_joins_126 (by decide) (fun c90 => ?_) (fun c90 => ?_)
      · refine z_iconst (v := 0) o dX5_joins_133 (by decide) ?_
        exact kret _ _ _ _ dX5_joins_134 ⟨rfl, by rw [show x = 45 from c89]; decide⟩
      · exact absurd c90 (by decide)
    refine z_lcase 47 (off := 134) (tgt := 135) o dX5_joins_1 (by decide) (by decide) (by decide) (fun c91 => ?_) (fun c91 => ?_)
    · refine z_iload_n (j := 0) o dX5_joins_135 rfl ?_
      refine z_iconst (v := 4) o dX5_joins_136 (by decide) ?_
      refine z_icmpne (tgt := 144) o dX5_joins_137 (by decide) (fun c92 => ?_) (fun c92 => ?_)
      · exact absurd c92 (by decide)
      · refine z_iconst (v := 1) o dX5_joins_140 (by decide) ?_
        refine z_goto (tgt := 145) o dX5_joins_141 (by decide) ?_
        exact kret _ _ _ _ dX5_joins_145 ⟨rfl, by rw [show x = 47 from c91]; decide⟩
    refine z_lcase 60 (off := 112) (tgt := 113) o dX5_joins_1 (by decide) (by decide) (by decide) (fun c93 => ?_) (fun c93 => ?_)
    · refine z_iload_n (j := 0) o dX5_joins_113 rfl ?_
      refine z_iconst (v := 2) o dX5_joins_114 (by decide) ?_
      refine z_icmpne (tgt := 122) o dX5_joins_115 (by decide) (fun c94 => ?_) (fun c94 => ?_)
      · refine z_iconst (v := 0) o dX5_joins_122 (by decide) ?_
        exact kret _ _ _ _ dX5_joins_123 ⟨rfl, by rw [show x = 60 from c93]; decide⟩
      · exact absurd c94 (by decide)
    refine z_lcase 61 (off := 112) (tgt := 113) o dX5_joins_1 (by decide) (by decide) (by decide) (fun c95 => ?_) (fun c95 => ?_)
    · refine z_iload_n (j := 0) o dX5_joins_113 rfl ?_
      refine z_iconst (v := 2) o dX5_joins_114 (by decide) ?_
      refine z_icmpne (tgt := 122) o dX5_joins_115 (by decide) (fun c96 => ?_) (fun c96 => ?_)
      · refine z_iconst (v := 0) o dX5_joins_122 (by decide) ?_
        exact kret _ _ _ _ dX5_joins_123 ⟨rfl, by rw [show x = 61 from c95]; decide⟩
      · exact absurd c96 (by decide)
    refine z_lcase 62 (off := 112) (tgt := 113) o dX5_joins_1 (by decide) (by decide) (by decide) (fun c97 => ?_) (fun c97 => ?_)
    · refine z_iload_n (j := 0) o dX5_joins_113 rfl ?_
      refine z_iconst (v := 2) o dX5_joins_114 (by decide) ?_
      refine z_icmpne (tgt := 122) o dX5_joins_115 (by decide) (fun c98 => ?_) (fun c98 => ?_)
      · refine z_iconst (v := 0) o dX5_joins_122 (by decide) ?_
        exact kret _ _ _ _ dX5_joins_123 ⟨rfl, by rw [show x = 62 from c97]; decide⟩
      · exact absurd c98 (by decide)
    refine z_lcase 124 (off := 91) (tgt := 92) o dX5_joins_1 (by decide) (by decide) (by decide) (fun c99 => ?_) (fun c99 => ?_)
    · refine z_iload_n (j := 0) o dX5_joins_92 rfl ?_
      refine z_ifne (tgt := 100) o dX5_joins_93 (by decide) (fun c100 => ?_) (fun c100 => ?_)
      · refine z_iconst (v := 0) o dX5_joins_100 (by decide) ?_
        exact kret _ _ _ _ dX5_joins_101 ⟨rfl, by rw [show x = 124 from c99]; decide⟩
      · exact absurd c100 (by decide)
    refine z_ldef (tgt := 146) o dX5_joins_1 (by decide) (by show Op.lookupswitch.offset [(37, 134), (38, 101), (42, 134), (43, 123), (45, 123), (47, 134), (60, 112), (61, 112), (62, 112), (124, 91)] _ _ = _; rw [lv_osw (a := 37) c81 rfl, lv_osw (a := 38) c83 rfl, lv_osw (a := 42) c85 rfl, lv_osw (a := 43) c87 rfl, lv_osw (a := 45) c89 rfl, lv_osw (a := 47) c91 rfl, lv_osw (a := 60) c93 rfl, lv_osw (a := 61) c95 rfl, lv_osw (a := 62) c97 rfl, lv_osw (a := 124) c99 rfl]; rfl) (by decide) ?_
    refine z_iconst (v := 0) o dX5_joins_146 (by decide) ?_
    exact kret _ _ _ _ dX5_joins_147 ⟨rfl, by unfold sp_jo; simp [show ¬ x = 37 from c81, show ¬ x = 38 from c83, show ¬ x = 42 from c85, show ¬ x = 43 from c87, show ¬ x = 45 from c89, show ¬ x = 47 from c91, show ¬ x = 60 from c93, show ¬ x = 61 from c95, show ¬ x = 62 from c97, show ¬ x = 124 from c99, zb]⟩

set_option maxHeartbeats 4000000 in
set_option maxRecDepth 100000 in
theorem c_X5_add {B : zB} (hB : znn B = 95) (M : zM) (N : zN) (v : Int32) (hl : zle (M 67 1) 60) : zCv B (zg B M N) yX5_add cX5_add 2 none 0 [zref B 67, .int v] (fun g' => g' = zg B (sp_add M v) N) := by
  refine zCv_of (by decide +kernel) (Nat.le_of_ble_eq_true rfl) ?_
  intro X o kret
  show zW X B (zg B M N) 0 [(0, zref B 67), (1, .int v)] []
  obtain ⟨e4, l4⟩ := zle_zn (by decide) hl
  refine z_aload_n (j := 0) o dX5_add_0 rfl ?_
  refine zo_get (i := 67) o hB dX5_add_1 zf_X5_38 rfl (by decide) (rfl) ?_
  refine zo_rw (y := nI (zn (M 67 1))) (e4) ?_
  refine z_aload_n (j := 0) o dX5_add_4 rfl ?_
  refine zo_get (i := 67) o hB dX5_add_5 zf_X5_9 rfl (by decide) (rfl) ?_
  refine zo_leni (i := 68) o hB dX5_add_8 rfl ?_
  refine zo_rw (y := nI 60) rfl ?_
  refine z_icmpge (tgt := 32) o dX5_add_9 (by decide) (fun c1 => ?_) (fun c1 => ?_)
  · exact kret _ _ _ dX5_add_32 (by unfold sp_add; rw [if_neg (fun q => c1 (nI_lt (b := 60) q (by decide)))])
  · have hlt : zn (M 67 1) < 60 := (nI_ltI (b := 60) (by omega) (by decide)).mp c1
    refine z_aload_n (j := 0) o dX5_add_12 rfl ?_
    refine zo_get (i := 67) o hB dX5_add_13 zf_X5_9 rfl (by decide) (rfl) ?_
    refine z_aload_n (j := 0) o dX5_add_16 rfl ?_
    refine zo_get (i := 67) o hB dX5_add_17 zf_X5_38 rfl (by decide) (rfl) ?_
    refine zo_rw (y := nI (zn (M 67 1))) (e4) ?_
    refine z_iload_n (j := 1) o dX5_add_20 rfl ?_
    refine zo_iast (i := 68) (j := zn (M 67 1)) o hB dX5_add_21 rfl (show zn (M 67 1) < 60 by omega) (by decide) ?_
    refine zo_nm (fun M2 hM2 => ?_)
    have fM2 : M2 67 1 = nI (zn (M 67 1)) := by rw [hM2, zu_ne (by decide)]; exact e4
    refine z_aload_n (j := 0) o dX5_add_22 rfl ?_
    refine z_dup o dX5_add_23 rfl ?_
    refine zo_get (i := 67) o hB dX5_add_24 zf_X5_38 rfl (by decide) (rfl) ?_
    refine zo_rw (y := nI (zn (M 67 1))) (fM2) ?_
    refine z_iconst (v := 1) o dX5_add_27 (by decide) ?_
    refine z_iadd o dX5_add_28 ?_
    refine zo_rw (y := nI (zn (M 67 1) + 1)) (zn_add (rfl) (rfl)) ?_
    refine zo_put (i := 67) o hB dX5_add_29 zp_X5_38 rfl (by decide) (by decide) (Nat.le_of_ble_eq_true rfl) ?_
    refine zo_nm (fun M3 hM3 => ?_)
    exact kret _ _ _ dX5_add_32 (by subst_vars; unfold sp_add; rw [if_pos hlt])

