/-! the class: the names of a use; String.indexOf on them -/
set_option maxHeartbeats 4000000 in
set_option maxRecDepth 100000 in
theorem c_X2_namesOf {B : zB} (hB : znn B = 95) (M : zM) (N : zN) (u : Nat) (hu : u < 2) : zCr B (zg B M N) yX2_namesOf cX2_namesOf 1 (some (.object "java/lang/String")) 0 [.int (nI u)] (fun x g' => g' = zg B M N ∧ x = zsq B (u + 1)) := by
  refine zCr_of (by decide +kernel) (Nat.le_of_ble_eq_true rfl) (.object "java/lang/String") rfl (Or.inl ⟨_, rfl⟩) ?_
  intro X o kret
  show zW X B (zg B M N) 0 [(0, .int (nI u))] []
  refine z_iload_n (j := 0) o dX2_namesOf_0 rfl ?_
  refine z_ifne (tgt := 9) o dX2_namesOf_1 (by decide) (fun c1 => ?_) (fun c1 => ?_)
  · obtain rfl : u = 1 := by
      rcases (show u = 0 ∨ u = 1 by omega) with rfl | q
      · exact absurd rfl c1
      · exact q
    refine z_ldcS (k := 2) o dX2_namesOf_9 zSt_cbd ?_
    exact kret _ _ _ _ dX2_namesOf_11 ⟨rfl, rfl⟩
  · obtain rfl : u = 0 := (nI_eq (b := 0) (by omega) (by decide)).mp c1
    refine z_ldcS (k := 1) o dX2_namesOf_4 zSt_apk ?_
    refine z_goto (tgt := 11) o dX2_namesOf_6 (by decide) ?_
    exact kret _ _ _ _ dX2_namesOf_11 ⟨rfl, rfl⟩

set_option maxHeartbeats 4000000 in
set_option maxRecDepth 100000 in
theorem c_J0_coder_1 {B : zB} (hB : znn B = 95) (M : zM) (N : zN) : zCi B (zg B M N) yJ0_coder_7d493 cJ0_coder_7d493 1 (some .byte) 0 [.ref (zsq B 1)] (fun r g' => g' = zg B M N ∧ r = 0) := by
  refine zCi_of (by decide +kernel) (Nat.le_of_ble_eq_true rfl) .byte rfl (fun _ _ h => by rw [h.2]; rfl) ?_
  intro X o kret
  show zW X B (zg B M N) 0 [(0, .ref (zsq B 1))] []
  refine z_compact o dJ0_coder_7d493_0 (zTB_in (k := 552) (by decide +kernel) rfl) ?_
  refine z_ifeq (tgt := 13) o dJ0_coder_7d493_3 (by decide) (fun c1 => ?_) (fun c1 => ?_)
  · exact absurd c1 (by decide)
  · refine z_aload_n (j := 0) o dJ0_coder_7d493_6 rfl ?_
    refine z_scod (k := 1) o dJ0_coder_7d493_7 (by decide) (zTB_in (k := 1337) (by decide +kernel) rfl) ?_
    refine z_goto (tgt := 14) o dJ0_coder_7d493_10 (by decide) ?_
    exact kret _ _ _ _ dJ0_coder_7d493_14 ⟨rfl, rfl⟩

set_option maxHeartbeats 4000000 in
set_option maxRecDepth 100000 in
theorem c_J0_length_1 {B : zB} (hB : znn B = 95) (M : zM) (N : zN) : zCi B (zg B M N) yJ0_length_8abf5 cJ0_length_8abf5 1 (some .int) 1 [.ref (zsq B 1)] (fun r g' => g' = zg B M N ∧ r = 3) := by
  refine zCi_of (by decide +kernel) (Nat.le_of_ble_eq_true rfl) .int rfl (fun _ _ _ => rfl) ?_
  intro X o kret
  show zW X B (zg B M N) 0 [(0, .ref (zsq B 1))] []
  refine z_aload_n (j := 0) o dJ0_length_8abf5_0 rfl ?_
  refine z_sval (k := 1) o dJ0_length_8abf5_1 (by decide) (zTB_in (k := 1338) (by decide +kernel) rfl) ?_
  refine z_slen (k := 1) (v := 3) o dJ0_length_8abf5_4 (by decide) rfl ?_
  refine z_aload_n (j := 0) o dJ0_length_8abf5_5 rfl ?_
  refine z_callTi (As := []) (n := 0) (st := [.int 3]) o dJ0_length_8abf5_6 (c_J0_coder_1 hB M N) zc_J0_335 (by decide) (k := 1) (by decide) rfl rfl rfl (Nat.le_of_ble_eq_true rfl) (fun r1 g2 p3 => ?_)
  obtain ⟨rfl, rfl⟩ := p3
  refine z_ishr o dJ0_length_8abf5_9 ?_
  exact kret _ _ _ _ dJ0_length_8abf5_10 ⟨rfl, by decide⟩

set_option maxHeartbeats 4000000 in
set_option maxRecDepth 100000 in
theorem c_J0_isLatin1_1 {B : zB} (hB : znn B = 95) (M : zM) (N : zN) : zCi B (zg B M N) yJ0_isLatin1_aae02 cJ0_isLatin1_aae02 1 (some .boolean) 0 [.ref (zsq B 1)] (fun r g' => g' = zg B M N ∧ r = 1) := by
  refine zCi_of (by decide +kernel) (Nat.le_of_ble_eq_true rfl) .boolean rfl (fun _ _ h => by rw [h.2]; rfl) ?_
  intro X o kret
  show zW X B (zg B M N) 0 [(0, .ref (zsq B 1))] []
  refine z_compact o dJ0_isLatin1_aae02_0 (zTB_in (k := 552) (by decide +kernel) rfl) ?_
  refine z_ifeq (tgt := 17) o dJ0_isLatin1_aae02_3 (by decide) (fun c1 => ?_) (fun c1 => ?_)
  · exact absurd c1 (by decide)
  · refine z_aload_n (j := 0) o dJ0_isLatin1_aae02_6 rfl ?_
    refine z_scod (k := 1) o dJ0_isLatin1_aae02_7 (by decide) (zTB_in (k := 1337) (by decide +kernel) rfl) ?_
    refine z_ifne (tgt := 17) o dJ0_isLatin1_aae02_10 (by decide) (fun c2 => ?_) (fun c2 => ?_)
    · exact absurd c2 (by decide)
    · refine z_iconst (v := 1) o dJ0_isLatin1_aae02_13 (by decide) ?_
      refine z_goto (tgt := 18) o dJ0_isLatin1_aae02_14 (by decide) ?_
      exact kret _ _ _ _ dJ0_isLatin1_aae02_18 ⟨rfl, rfl⟩

set_option maxHeartbeats 4000000 in
set_option maxRecDepth 100000 in
theorem c_J1_canEncode {B : zB} (hB : znn B = 95) (M : zM) (N : zN) (b : Nat) (hb : b < 256) : zCi B (zg B M N) yJ1_canEncode_9a6ad cJ1_canEncode_9a6ad 1 (some .boolean) 0 [.int (nI b)] (fun r g' => g' = zg B M N ∧ r = 1) := by
  refine zCi_of (by decide +kernel) (Nat.le_of_ble_eq_true rfl) .boolean rfl (fun _ _ h => by rw [h.2]; rfl) ?_
  intro X o kret
  show zW X B (zg B M N) 0 [(0, .int (nI b))] []
  refine z_iload_n (j := 0) o dJ1_canEncode_9a6ad_0 rfl ?_
  refine z_iflt (tgt := 15) o dJ1_canEncode_9a6ad_1 (by decide) (fun c1 => ?_) (fun c1 => ?_)
  · exact absurd c1 (nI_pos (by omega))
  · refine z_iload_n (j := 0) o dJ1_canEncode_9a6ad_4 rfl ?_
    refine z_sipush (v := 255) o dJ1_canEncode_9a6ad_5 (by decide) ?_
    refine z_icmpgt (tgt := 15) o dJ1_canEncode_9a6ad_8 (by decide) (fun c2 => ?_) (fun c2 => ?_)
    · exact absurd c2 (nI_nlt (a := 255) (by omega) (by omega))
    · refine z_iconst (v := 1) o dJ1_canEncode_9a6ad_11 (by decide) ?_
      refine z_goto (tgt := 16) o dJ1_canEncode_9a6ad_12 (by decide) ?_
      exact kret _ _ _ _ dJ1_canEncode_9a6ad_16 ⟨rfl, rfl⟩

theorem by_eqs : ∀ (b : Fin 256) (v : Fin 128), (nI v.1 = (nI b.1).toInt8.toInt32) = (nI b.1 = nI v.1) := by
  have h : ∀ (b : Fin 256) (v : Fin 128), ((nI v.1 = (nI b.1).toInt8.toInt32) ↔ (nI b.1 = nI v.1)) := by decide +kernel
  exact fun b v => propext (h b v)
set_option maxHeartbeats 4000000 in
set_option maxRecDepth 100000 in
theorem c_J1_indexOfChar_1 {B : zB} (hB : znn B = 95) (M : zM) (N : zN) (b : Nat) (hb : b < 256) : zCi B (zg B M N) yJ1_indexOfChar_4cfef cJ1_indexOfChar_4cfef 6 (some .int) 0 [.ref (zsv B 1), .int (nI b), .int 0, .int 3] (fun r g' => g' = zg B M N ∧ r = sp_nm 0 (nI b)) := by
  refine zCi_of (by decide +kernel) (Nat.le_of_ble_eq_true rfl) .int rfl (fun _ _ _ => rfl) ?_
  intro X o kret
  show zW X B (zg B M N) 0 [(0, .ref (zsv B 1)), (1, .int (nI b)), (2, .int 0), (3, .int 3)] []
  refine z_iload_n (j := 1) o dJ1_indexOfChar_4cfef_0 rfl ?_
  refine z_i2b o dJ1_indexOfChar_4cfef_1 ?_
  refine z_istore (i := 4) (lv2 := [(4, .int ((nI b).toInt8.toInt32)), (0, .ref (zsv B 1)), (1, .int (nI b)), (2, .int 0), (3, .int 3)]) o dJ1_indexOfChar_4cfef_2 (by decide) rfl ?_
  refine z_iload_n (j := 3) o dJ1_indexOfChar_4cfef_4 rfl ?_
  refine z_istore (i := 5) (lv2 := [(5, .int 0), (4, .int ((nI b).toInt8.toInt32)), (0, .ref (zsv B 1)), (1, .int (nI b)), (2, .int 0), (3, .int 3)]) o dJ1_indexOfChar_4cfef_5 (by decide) rfl ?_
  refine z_iload (j := 0) o dJ1_indexOfChar_4cfef_7 rfl ?_
  refine z_iload_n (j := 5) o dJ1_indexOfChar_4cfef_9 rfl ?_
  refine z_icmpge (tgt := 31) o dJ1_indexOfChar_4cfef_10 (by decide) (fun c1 => ?_) (fun c1 => ?_)
  · exact absurd c1 (by decide)
  · refine z_aload_n (j := 2) o dJ1_indexOfChar_4cfef_13 rfl ?_
    refine z_iload (j := 0) o dJ1_indexOfChar_4cfef_14 rfl ?_
    refine z_sbald (k := 1) (v := 97) o dJ1_indexOfChar_4cfef_16 (by decide) (by unfold vp_in; decide) (by decide) ?_
    refine z_iload (j := 1) o dJ1_indexOfChar_4cfef_17 rfl ?_
    refine z_icmpne (tgt := 25) o dJ1_indexOfChar_4cfef_19 (by decide) (fun c2 => ?_) (fun c2 => ?_)
    · have n0 : ¬ nI b = 97 := fun q => c2 ((by_eqs ⟨b, hb⟩ ⟨97, by decide⟩).symm ▸ q)
      refine z_iinc (j := 0) (v := 1) (lv2 := [(5, .int 1), (4, .int ((nI b).toInt8.toInt32)), (0, .ref (zsv B 1)), (1, .int (nI b)), (2, .int 0), (3, .int 3)]) o dJ1_indexOfChar_4cfef_25 rfl (by decide) (by decide) rfl ?_
      refine z_goto (tgt := 7) o dJ1_indexOfChar_4cfef_28 (by decide) ?_
      refine z_iload (j := 0) o dJ1_indexOfChar_4cfef_7 rfl ?_
      refine z_iload_n (j := 5) o dJ1_indexOfChar_4cfef_9 rfl ?_
      refine z_icmpge (tgt := 31) o dJ1_indexOfChar_4cfef_10 (by decide) (fun c3 => ?_) (fun c3 => ?_)
      · exact absurd c3 (by decide)
      · refine z_aload_n (j := 2) o dJ1_indexOfChar_4cfef_13 rfl ?_
        refine z_iload (j := 0) o dJ1_indexOfChar_4cfef_14 rfl ?_
        refine z_sbald (k := 1) (v := 112) o dJ1_indexOfChar_4cfef_16 (by decide) (by unfold vp_in; decide) (by decide) ?_
        refine z_iload (j := 1) o dJ1_indexOfChar_4cfef_17 rfl ?_
        refine z_icmpne (tgt := 25) o dJ1_indexOfChar_4cfef_19 (by decide) (fun c4 => ?_) (fun c4 => ?_)
        · have n1 : ¬ nI b = 112 := fun q => c4 ((by_eqs ⟨b, hb⟩ ⟨112, by decide⟩).symm ▸ q)
          refine z_iinc (j := 0) (v := 2) (lv2 := [(5, .int 2), (4, .int ((nI b).toInt8.toInt32)), (0, .ref (zsv B 1)), (1, .int (nI b)), (2, .int 0), (3, .int 3)]) o dJ1_indexOfChar_4cfef_25 rfl (by decide) (by decide) rfl ?_
          refine z_goto (tgt := 7) o dJ1_indexOfChar_4cfef_28 (by decide) ?_
          refine z_iload (j := 0) o dJ1_indexOfChar_4cfef_7 rfl ?_
          refine z_iload_n (j := 5) o dJ1_indexOfChar_4cfef_9 rfl ?_
          refine z_icmpge (tgt := 31) o dJ1_indexOfChar_4cfef_10 (by decide) (fun c5 => ?_) (fun c5 => ?_)
          · exact absurd c5 (by decide)
          · refine z_aload_n (j := 2) o dJ1_indexOfChar_4cfef_13 rfl ?_
            refine z_iload (j := 0) o dJ1_indexOfChar_4cfef_14 rfl ?_
            refine z_sbald (k := 1) (v := 107) o dJ1_indexOfChar_4cfef_16 (by decide) (by unfold vp_in; decide) (by decide) ?_
            refine z_iload (j := 1) o dJ1_indexOfChar_4cfef_17 rfl ?_
            refine z_icmpne (tgt := 25) o dJ1_indexOfChar_4cfef_19 (by decide) (fun c6 => ?_) (fun c6 => ?_)
            · have n2 : ¬ nI b = 107 := fun q => c6 ((by_eqs ⟨b, hb⟩ ⟨107, by decide⟩).symm ▸ q)
              refine z_iinc (j := 0) (v := 3) (lv2 := [(5, .int 3), (4, .int ((nI b).toInt8.toInt32)), (0, .ref (zsv B 1)), (1, .int (nI b)), (2, .int 0), (3, .int 3)]) o dJ1_indexOfChar_4cfef_25 rfl (by decide) (by decide) rfl ?_
              refine z_goto (tgt := 7) o dJ1_indexOfChar_4cfef_28 (by decide) ?_
              refine z_iload (j := 0) o dJ1_indexOfChar_4cfef_7 rfl ?_
              refine z_iload_n (j := 5) o dJ1_indexOfChar_4cfef_9 rfl ?_
              refine z_icmpge (tgt := 31) o dJ1_indexOfChar_4cfef_10 (by decide) (fun c7 => ?_) (fun c7 => ?_)
              · refine z_iconst (v := (-1)) o dJ1_indexOfChar_4cfef_31 (by decide) ?_
                exact kret _ _ _ _ dJ1_indexOfChar_4cfef_32 ⟨rfl, by unfold sp_nm; simp [n0, n1, n2]⟩
              · exact absurd c7 (by decide)
            · have q : nI b = 107 := (by_eqs ⟨b, hb⟩ ⟨107, by decide⟩) ▸ c6
              refine z_iload (j := 0) o dJ1_indexOfChar_4cfef_22 rfl ?_
              exact kret _ _ _ _ dJ1_indexOfChar_4cfef_24 ⟨rfl, by rw [q]; decide⟩
        · have q : nI b = 112 := (by_eqs ⟨b, hb⟩ ⟨112, by decide⟩) ▸ c4
          refine z_iload (j := 0) o dJ1_indexOfChar_4cfef_22 rfl ?_
          exact kret _ _ _ _ dJ1_indexOfChar_4cfef_24 ⟨rfl, by rw [q]; decide⟩
    · have q : nI b = 97 := (by_eqs ⟨b, hb⟩ ⟨97, by decide⟩) ▸ c2
      refine z_iload (j := 0) o dJ1_indexOfChar_4cfef_22 rfl ?_
      exact kret _ _ _ _ dJ1_indexOfChar_4cfef_24 ⟨rfl, by rw [q]; decide⟩

set_option maxHeartbeats 4000000 in
set_option maxRecDepth 100000 in
theorem c_J1_indexOf_1 {B : zB} (hB : znn B = 95) (M : zM) (N : zN) (b : Nat) (hb : b < 256) : zCi B (zg B M N) yJ1_indexOf_4cfef cJ1_indexOf_4cfef 4 (some .int) 1 [.ref (zsv B 1), .int (nI b), .int 0, .int 3] (fun r g' => g' = zg B M N ∧ r = sp_nm 0 (nI b)) := by
  refine zCi_of (by decide +kernel) (Nat.le_of_ble_eq_true rfl) .int rfl (fun _ _ _ => rfl) ?_
  intro X o kret
  show zW X B (zg B M N) 0 [(0, .ref (zsv B 1)), (1, .int (nI b)), (2, .int 0), (3, .int 3)] []
  refine z_iload_n (j := 1) o dJ1_indexOf_4cfef_0 rfl ?_
  refine z_callSi (As := [.int (nI b)]) (n := 1) (st := []) o dJ1_indexOf_4cfef_1 (c_J1_canEncode hB M N b (by omega)) zc_J1_88 (by decide) rfl rfl (Nat.le_of_ble_eq_true rfl) (fun r1 g2 p3 => ?_)
  obtain ⟨rfl, rfl⟩ := p3
  refine z_ifne (tgt := 9) o dJ1_indexOf_4cfef_4 (by decide) (fun c4 => ?_) (fun c4 => ?_)
  · refine z_iload_n (j := 2) o dJ1_indexOf_4cfef_9 rfl ?_
    refine z_iconst (v := 0) o dJ1_indexOf_4cfef_10 (by decide) ?_
    refine z_mmax o dJ1_indexOf_4cfef_11 zm_J1_92 zn_maxs zn_mi zn_maxc (by decide) (Nat.le_of_ble_eq_true rfl) ?_
    refine zo_rw (y := 0) (by decide) ?_
    refine z_istore_n (i := 2) (lv2 := [(2, .int 0), (0, .ref (zsv B 1)), (1, .int (nI b)), (3, .int 3)]) o dJ1_indexOf_4cfef_14 rfl (by decide) rfl ?_
    refine z_iload_n (j := 3) o dJ1_indexOf_4cfef_15 rfl ?_
    refine z_aload_n (j := 1) o dJ1_indexOf_4cfef_16 rfl ?_
    refine z_slen (k := 1) (v := 3) o dJ1_indexOf_4cfef_17 (by decide) rfl ?_
    refine z_mmin o dJ1_indexOf_4cfef_18 zm_J1_38 zn_mins zn_mi zn_minc (by decide) (Nat.le_of_ble_eq_true rfl) ?_
    refine zo_rw (y := 3) (by decide) ?_
    refine z_istore_n (i := 3) (lv2 := [(3, .int 3), (2, .int 0), (0, .ref (zsv B 1)), (1, .int (nI b))]) o dJ1_indexOf_4cfef_21 rfl (by decide) rfl ?_
    refine z_iload_n (j := 1) o dJ1_indexOf_4cfef_22 rfl ?_
    refine z_iload_n (j := 0) o dJ1_indexOf_4cfef_23 rfl ?_
    refine z_icmplt (tgt := 29) o dJ1_indexOf_4cfef_24 (by decide) (fun c5 => ?_) (fun c5 => ?_)
    · refine z_aload_n (j := 2) o dJ1_indexOf_4cfef_29 rfl ?_
      refine z_iload_n (j := 3) o dJ1_indexOf_4cfef_30 rfl ?_
      refine z_iload_n (j := 1) o dJ1_indexOf_4cfef_31 rfl ?_
      refine z_iload_n (j := 0) o dJ1_indexOf_4cfef_32 rfl ?_
      refine z_callSi (As := [.ref (zsv B 1), .int (nI b), .int 0, .int 3]) (n := 4) (st := []) o dJ1_indexOf_4cfef_33 (c_J1_indexOfChar_1 hB M N b (by omega)) zc_J1_95 (by decide) rfl rfl (Nat.le_of_ble_eq_true rfl) (fun r6 g7 p8 => ?_)
      obtain ⟨rfl, rfl⟩ := p8
      exact kret _ _ _ _ dJ1_indexOf_4cfef_36 ⟨rfl, rfl⟩
    · exact absurd c5 (by decide)
  · exact absurd c4 (by decide)

set_option maxHeartbeats 4000000 in
set_option maxRecDepth 100000 in
theorem c_J0_indexOf2_1 {B : zB} (hB : znn B = 95) (M : zM) (N : zN) (b : Nat) (hb : b < 256) : zCi B (zg B M N) yJ0_indexOf_7cf53 cJ0_indexOf_7cf53 3 (some .int) 2 [.ref (zsq B 1), .int (nI b), .int 0] (fun r g' => g' = zg B M N ∧ r = sp_nm 0 (nI b)) := by
  refine zCi_of (by decide +kernel) (Nat.le_of_ble_eq_true rfl) .int rfl (fun _ _ _ => rfl) ?_
  intro X o kret
  show zW X B (zg B M N) 0 [(0, .ref (zsq B 1)), (1, .int (nI b)), (2, .int 0)] []
  refine z_aload_n (j := 0) o dJ0_indexOf_7cf53_0 rfl ?_
  refine z_callTi (As := []) (n := 0) (st := []) o dJ0_indexOf_7cf53_1 (c_J0_isLatin1_1 hB M N) zc_J0_492 (by decide) (k := 1) (by decide) rfl rfl rfl (Nat.le_of_ble_eq_true rfl) (fun r1 g2 p3 => ?_)
  obtain ⟨rfl, rfl⟩ := p3
  refine z_ifeq (tgt := 23) o dJ0_indexOf_7cf53_4 (by decide) (fun c4 => ?_) (fun c4 => ?_)
  · exact absurd c4 (by decide)
  · refine z_aload_n (j := 0) o dJ0_indexOf_7cf53_7 rfl ?_
    refine z_sval (k := 1) o dJ0_indexOf_7cf53_8 (by decide) (zTB_in (k := 1338) (by decide +kernel) rfl) ?_
    refine z_iload_n (j := 1) o dJ0_indexOf_7cf53_11 rfl ?_
    refine z_iload_n (j := 2) o dJ0_indexOf_7cf53_12 rfl ?_
    refine z_aload_n (j := 0) o dJ0_indexOf_7cf53_13 rfl ?_
    refine z_callTi (As := []) (n := 0) (st := [.int 0, .int (nI b), .ref (zsv B 1)]) o dJ0_indexOf_7cf53_14 (c_J0_length_1 hB M N) zc_J0_505 (by decide) (k := 1) (by decide) rfl rfl rfl (Nat.le_of_ble_eq_true rfl) (fun r5 g6 p7 => ?_)
    obtain ⟨rfl, rfl⟩ := p7
    refine z_callSi (As := [.ref (zsv B 1), .int (nI b), .int 0, .int 3]) (n := 4) (st := []) o dJ0_indexOf_7cf53_17 (c_J1_indexOf_1 hB M N b (by omega)) zc_J0_637 (by decide) rfl rfl (Nat.le_of_ble_eq_true rfl) (fun r8 g9 p10 => ?_)
    obtain ⟨rfl, rfl⟩ := p10
    refine z_goto (tgt := 36) o dJ0_indexOf_7cf53_20 (by decide) ?_
    exact kret _ _ _ _ dJ0_indexOf_7cf53_36 ⟨rfl, rfl⟩

set_option maxHeartbeats 4000000 in
set_option maxRecDepth 100000 in
theorem c_J0_indexOf_1 {B : zB} (hB : znn B = 95) (M : zM) (N : zN) (b : Nat) (hb : b < 256) : zCi B (zg B M N) yJ0_indexOf_0f7a4 cJ0_indexOf_0f7a4 2 (some .int) 3 [.ref (zsq B 1), .int (nI b)] (fun r g' => g' = zg B M N ∧ r = sp_nm 0 (nI b)) := by
  refine zCi_of (by decide +kernel) (Nat.le_of_ble_eq_true rfl) .int rfl (fun _ _ _ => rfl) ?_
  intro X o kret
  show zW X B (zg B M N) 0 [(0, .ref (zsq B 1)), (1, .int (nI b))] []
  refine z_aload_n (j := 0) o dJ0_indexOf_0f7a4_0 rfl ?_
  refine z_iload_n (j := 1) o dJ0_indexOf_0f7a4_1 rfl ?_
  refine z_iconst (v := 0) o dJ0_indexOf_0f7a4_2 (by decide) ?_
  refine z_callTi (As := [.int (nI b), .int 0]) (n := 2) (st := []) o dJ0_indexOf_0f7a4_3 (c_J0_indexOf2_1 hB M N b (by omega)) zc_J0_633 (by decide) (k := 1) (by decide) rfl rfl rfl (Nat.le_of_ble_eq_true rfl) (fun r1 g2 p3 => ?_)
  obtain ⟨rfl, rfl⟩ := p3
  exact kret _ _ _ _ dJ0_indexOf_0f7a4_6 ⟨rfl, rfl⟩

set_option maxHeartbeats 4000000 in
set_option maxRecDepth 100000 in
theorem c_J0_coder_2 {B : zB} (hB : znn B = 95) (M : zM) (N : zN) : zCi B (zg B M N) yJ0_coder_7d493 cJ0_coder_7d493 1 (some .byte) 0 [.ref (zsq B 2)] (fun r g' => g' = zg B M N ∧ r = 0) := by
  refine zCi_of (by decide +kernel) (Nat.le_of_ble_eq_true rfl) .byte rfl (fun _ _ h => by rw [h.2]; rfl) ?_
  intro X o kret
  show zW X B (zg B M N) 0 [(0, .ref (zsq B 2))] []
  refine z_compact o dJ0_coder_7d493_0 (zTB_in (k := 552) (by decide +kernel) rfl) ?_
  refine z_ifeq (tgt := 13) o dJ0_coder_7d493_3 (by decide) (fun c1 => ?_) (fun c1 => ?_)
  · exact absurd c1 (by decide)
  · refine z_aload_n (j := 0) o dJ0_coder_7d493_6 rfl ?_
    refine z_scod (k := 2) o dJ0_coder_7d493_7 (by decide) (zTB_in (k := 1337) (by decide +kernel) rfl) ?_
    refine z_goto (tgt := 14) o dJ0_coder_7d493_10 (by decide) ?_
    exact kret _ _ _ _ dJ0_coder_7d493_14 ⟨rfl, rfl⟩

set_option maxHeartbeats 4000000 in
set_option maxRecDepth 100000 in
theorem c_J0_length_2 {B : zB} (hB : znn B = 95) (M : zM) (N : zN) : zCi B (zg B M N) yJ0_length_8abf5 cJ0_length_8abf5 1 (some .int) 1 [.ref (zsq B 2)] (fun r g' => g' = zg B M N ∧ r = 3) := by
  refine zCi_of (by decide +kernel) (Nat.le_of_ble_eq_true rfl) .int rfl (fun _ _ _ => rfl) ?_
  intro X o kret
  show zW X B (zg B M N) 0 [(0, .ref (zsq B 2))] []
  refine z_aload_n (j := 0) o dJ0_length_8abf5_0 rfl ?_
  refine z_sval (k := 2) o dJ0_length_8abf5_1 (by decide) (zTB_in (k := 1338) (by decide +kernel) rfl) ?_
  refine z_slen (k := 2) (v := 3) o dJ0_length_8abf5_4 (by decide) rfl ?_
  refine z_aload_n (j := 0) o dJ0_length_8abf5_5 rfl ?_
  refine z_callTi (As := []) (n := 0) (st := [.int 3]) o dJ0_length_8abf5_6 (c_J0_coder_2 hB M N) zc_J0_335 (by decide) (k := 2) (by decide) rfl rfl rfl (Nat.le_of_ble_eq_true rfl) (fun r1 g2 p3 => ?_)
  obtain ⟨rfl, rfl⟩ := p3
  refine z_ishr o dJ0_length_8abf5_9 ?_
  exact kret _ _ _ _ dJ0_length_8abf5_10 ⟨rfl, by decide⟩

set_option maxHeartbeats 4000000 in
set_option maxRecDepth 100000 in
theorem c_J0_isLatin1_2 {B : zB} (hB : znn B = 95) (M : zM) (N : zN) : zCi B (zg B M N) yJ0_isLatin1_aae02 cJ0_isLatin1_aae02 1 (some .boolean) 0 [.ref (zsq B 2)] (fun r g' => g' = zg B M N ∧ r = 1) := by
  refine zCi_of (by decide +kernel) (Nat.le_of_ble_eq_true rfl) .boolean rfl (fun _ _ h => by rw [h.2]; rfl) ?_
  intro X o kret
  show zW X B (zg B M N) 0 [(0, .ref (zsq B 2))] []
  refine z_compact o dJ0_isLatin1_aae02_0 (zTB_in (k := 552) (by decide +kernel) rfl) ?_
  refine z_ifeq (tgt := 17) o dJ0_isLatin1_aae02_3 (by decide) (fun c1 => ?_) (fun c1 => ?_)
  · exact absurd c1 (by decide)
  · refine z_aload_n (j := 0) o dJ0_isLatin1_aae02_6 rfl ?_
    refine z_scod (k := 2) o dJ0_isLatin1_aae02_7 (by decide) (zTB_in (k := 1337) (by decide +kernel) rfl) ?_
    refine z_ifne (tgt := 17) o dJ0_isLatin1_aae02_10 (by decide) (fun c2 => ?_) (fun c2 => ?_)
    · exact absurd c2 (by decide)
    · refine z_iconst (v := 1) o dJ0_isLatin1_aae02_13 (by decide) ?_
      refine z_goto (tgt := 18) o dJ0_isLatin1_aae02_14 (by decide) ?_
      exact kret _ _ _ _ dJ0_isLatin1_aae02_18 ⟨rfl, rfl⟩

set_option maxHeartbeats 4000000 in
set_option maxRecDepth 100000 in
theorem c_J1_indexOfChar_2 {B : zB} (hB : znn B = 95) (M : zM) (N : zN) (b : Nat) (hb : b < 256) : zCi B (zg B M N) yJ1_indexOfChar_4cfef cJ1_indexOfChar_4cfef 6 (some .int) 0 [.ref (zsv B 2), .int (nI b), .int 0, .int 3] (fun r g' => g' = zg B M N ∧ r = sp_nm 1 (nI b)) := by
  refine zCi_of (by decide +kernel) (Nat.le_of_ble_eq_true rfl) .int rfl (fun _ _ _ => rfl) ?_
  intro X o kret
  show zW X B (zg B M N) 0 [(0, .ref (zsv B 2)), (1, .int (nI b)), (2, .int 0), (3, .int 3)] []
  refine z_iload_n (j := 1) o dJ1_indexOfChar_4cfef_0 rfl ?_
  refine z_i2b o dJ1_indexOfChar_4cfef_1 ?_
  refine z_istore (i := 4) (lv2 := [(4, .int ((nI b).toInt8.toInt32)), (0, .ref (zsv B 2)), (1, .int (nI b)), (2, .int 0), (3, .int 3)]) o dJ1_indexOfChar_4cfef_2 (by decide) rfl ?_
  refine z_iload_n (j := 3) o dJ1_indexOfChar_4cfef_4 rfl ?_
  refine z_istore (i := 5) (lv2 := [(5, .int 0), (4, .int ((nI b).toInt8.toInt32)), (0, .ref (zsv B 2)), (1, .int (nI b)), (2, .int 0), (3, .int 3)]) o dJ1_indexOfChar_4cfef_5 (by decide) rfl ?_
  refine z_iload (j := 0) o dJ1_indexOfChar_4cfef_7 rfl ?_
  refine z_iload_n (j := 5) o dJ1_indexOfChar_4cfef_9 rfl ?_
  refine z_icmpge (tgt := 31) o dJ1_indexOfChar_4cfef_10 (by decide) (fun c1 => ?_) (fun c1 => ?_)
  · exact absurd c1 (by decide)
  · refine z_aload_n (j := 2) o dJ1_indexOfChar_4cfef_13 rfl ?_
    refine z_iload (j := 0) o dJ1_indexOfChar_4cfef_14 rfl ?_
    refine z_sbald (k := 2) (v := 99) o dJ1_indexOfChar_4cfef_16 (by decide) (by unfold vp_in; decide) (by decide) ?_
    refine z_iload (j := 1) o dJ1_indexOfChar_4cfef_17 rfl ?_
    refine z_icmpne (tgt := 25) o dJ1_indexOfChar_4cfef_19 (by decide) (fun c2 => ?_) (fun c2 => ?_)
    · have n0 : ¬ nI b = 99 := fun q => c2 ((by_eqs ⟨b, hb⟩ ⟨99, by decide⟩).symm ▸ q)
      refine z_iinc (j := 0) (v := 1) (lv2 := [(5, .int 1), (4, .int ((nI b).toInt8.toInt32)), (0, .ref (zsv B 2)), (1, .int (nI b)), (2, .int 0), (3, .int 3)]) o dJ1_indexOfChar_4cfef_25 rfl (by decide) (by decide) rfl ?_
      refine z_goto (tgt := 7) o dJ1_indexOfChar_4cfef_28 (by decide) ?_
      refine z_iload (j := 0) o dJ1_indexOfChar_4cfef_7 rfl ?_
      refine z_iload_n (j := 5) o dJ1_indexOfChar_4cfef_9 rfl ?_
      refine z_icmpge (tgt := 31) o dJ1_indexOfChar_4cfef_10 (by decide) (fun c3 => ?_) (fun c3 => ?_)
      · exact absurd c3 (by decide)
      · refine z_aload_n (j := 2) o dJ1_indexOfChar_4cfef_13 rfl ?_
        refine z_iload (j := 0) o dJ1_indexOfChar_4cfef_14 rfl ?_
        refine z_sbald (k := 2) (v := 98) o dJ1_indexOfChar_4cfef_16 (by decide) (by unfold vp_in; decide) (by decide) ?_
        refine z_iload (j := 1) o dJ1_indexOfChar_4cfef_17 rfl ?_
        refine z_icmpne (tgt := 25) o dJ1_indexOfChar_4cfef_19 (by decide) (fun c4 => ?_) (fun c4 => ?_)
        · have n1 : ¬ nI b = 98 := fun q => c4 ((by_eqs ⟨b, hb⟩ ⟨98, by decide⟩).symm ▸ q)
          refine z_iinc (j := 0) (v := 2) (lv2 := [(5, .int 2), (4, .int ((nI b).toInt8.toInt32)), (0, .ref (zsv B 2)), (1, .int (nI b)), (2, .int 0), (3, .int 3)]) o dJ1_indexOfChar_4cfef_25 rfl (by decide) (by decide) rfl ?_
          refine z_goto (tgt := 7) o dJ1_indexOfChar_4cfef_28 (by decide) ?_
          refine z_iload (j := 0) o dJ1_indexOfChar_4cfef_7 rfl ?_
          refine z_iload_n (j := 5) o dJ1_indexOfChar_4cfef_9 rfl ?_
          refine z_icmpge (tgt := 31) o dJ1_indexOfChar_4cfef_10 (by decide) (fun c5 => ?_) (fun c5 => ?_)
          · exact absurd c5 (by decide)
          · refine z_aload_n (j := 2) o dJ1_indexOfChar_4cfef_13 rfl ?_
            refine z_iload (j := 0) o dJ1_indexOfChar_4cfef_14 rfl ?_
            refine z_sbald (k := 2) (v := 100) o dJ1_indexOfChar_4cfef_16 (by decide) (by unfold vp_in; decide) (by decide) ?_
            refine z_iload (j := 1) o dJ1_indexOfChar_4cfef_17 rfl ?_
            refine z_icmpne (tgt := 25) o dJ1_indexOfChar_4cfef_19 (by decide) (fun c6 => ?_) (fun c6 => ?_)
            · have n2 : ¬ nI b = 100 := fun q => c6 ((by_eqs ⟨b, hb⟩ ⟨100, by decide⟩).symm ▸ q)
              refine z_iinc (j := 0) (v := 3) (lv2 := [(5, .int 3), (4, .int ((nI b).toInt8.toInt32)), (0, .ref (zsv B 2)), (1, .int (nI b)), (2, .int 0), (3, .int 3)]) o dJ1_indexOfChar_4cfef_25 rfl (by decide) (by decide) rfl ?_
              refine z_goto (tgt := 7) o dJ1_indexOfChar_4cfef_28 (by decide) ?_
              refine z_iload (j := 0) o dJ1_indexOfChar_4cfef_7 rfl ?_
              refine z_iload_n (j := 5) o dJ1_indexOfChar_4cfef_9 rfl ?_
              refine z_icmpge (tgt := 31) o dJ1_indexOfChar_4cfef_10 (by decide) (fun c7 => ?_) (fun c7 => ?_)
              · refine z_iconst (v := (-1)) o dJ1_indexOfChar_4cfef_31 (by decide) ?_
                exact kret _ _ _ _ dJ1_indexOfChar_4cfef_32 ⟨rfl, by unfold sp_nm; simp [n0, n1, n2]⟩
              · exact absurd c7 (by decide)
            · have q : nI b = 100 := (by_eqs ⟨b, hb⟩ ⟨100, by decide⟩) ▸ c6
              refine z_iload (j := 0) o dJ1_indexOfChar_4cfef_22 rfl ?_
              exact kret _ _ _ _ dJ1_indexOfChar_4cfef_24 ⟨rfl, by rw [q]; decide⟩
        · have q : nI b = 98 := (by_eqs ⟨b, hb⟩ ⟨98, by decide⟩) ▸ c4
          refine z_iload (j := 0) o dJ1_indexOfChar_4cfef_22 rfl ?_
          exact kret _ _ _ _ dJ1_indexOfChar_4cfef_24 ⟨rfl, by rw [q]; decide⟩
    · have q : nI b = 99 := (by_eqs ⟨b, hb⟩ ⟨99, by decide⟩) ▸ c2
      refine z_iload (j := 0) o dJ1_indexOfChar_4cfef_22 rfl ?_
      exact kret _ _ _ _ dJ1_indexOfChar_4cfef_24 ⟨rfl, by rw [q]; decide⟩

set_option maxHeartbeats 4000000 in
set_option maxRecDepth 100000 in
theorem c_J1_indexOf_2 {B : zB} (hB : znn B = 95) (M : zM) (N : zN) (b : Nat) (hb : b < 256) : zCi B (zg B M N) yJ1_indexOf_4cfef cJ1_indexOf_4cfef 4 (some .int) 1 [.ref (zsv B 2), .int (nI b), .int 0, .int 3] (fun r g' => g' = zg B M N ∧ r = sp_nm 1 (nI b)) := by
  refine zCi_of (by decide +kernel) (Nat.le_of_ble_eq_true rfl) .int rfl (fun _ _ _ => rfl) ?_
  intro X o kret
  show zW X B (zg B M N) 0 [(0, .ref (zsv B 2)), (1, .int (nI b)), (2, .int 0), (3, .int 3)] []
  refine z_iload_n (j := 1) o dJ1_indexOf_4cfef_0 rfl ?_
  refine z_callSi (As := [.int (nI b)]) (n := 1) (st := []) o dJ1_indexOf_4cfef_1 (c_J1_canEncode hB M N b (by omega)) zc_J1_88 (by decide) rfl rfl (Nat.le_of_ble_eq_true rfl) (fun r1 g2 p3 => ?_)
  obtain ⟨rfl, rfl⟩ := p3
  refine z_ifne (tgt := 9) o dJ1_indexOf_4cfef_4 (by decide) (fun c4 => ?_) (fun c4 => ?_)
  · refine z_iload_n (j := 2) o dJ1_indexOf_4cfef_9 rfl ?_
    refine z_iconst (v := 0) o dJ1_indexOf_4cfef_10 (by decide) ?_
    refine z_mmax o dJ1_indexOf_4cfef_11 zm_J1_92 zn_maxs zn_mi zn_maxc (by decide) (Nat.le_of_ble_eq_true rfl) ?_
    refine zo_rw (y := 0) (by decide) ?_
    refine z_istore_n (i := 2) (lv2 := [(2, .int 0), (0, .ref (zsv B 2)), (1, .int (nI b)), (3, .int 3)]) o dJ1_indexOf_4cfef_14 rfl (by decide) rfl ?_
    refine z_iload_n (j := 3) o dJ1_indexOf_4cfef_15 rfl ?_
    refine z_aload_n (j := 1) o dJ1_indexOf_4cfef_16 rfl ?_
    refine z_slen (k := 2) (v := 3) o dJ1_indexOf_4cfef_17 (by decide) rfl ?_
    refine z_mmin o dJ1_indexOf_4cfef_18 zm_J1_38 zn_mins zn_mi zn_minc (by decide) (Nat.le_of_ble_eq_true rfl) ?_
    refine zo_rw (y := 3) (by decide) ?_
    refine z_istore_n (i := 3) (lv2 := [(3, .int 3), (2, .int 0), (0, .ref (zsv B 2)), (1, .int (nI b))]) o dJ1_indexOf_4cfef_21 rfl (by decide) rfl ?_
    refine z_iload_n (j := 1) o dJ1_indexOf_4cfef_22 rfl ?_
    refine z_iload_n (j := 0) o dJ1_indexOf_4cfef_23 rfl ?_
    refine z_icmplt (tgt := 29) o dJ1_indexOf_4cfef_24 (by decide) (fun c5 => ?_) (fun c5 => ?_)
    · refine z_aload_n (j := 2) o dJ1_indexOf_4cfef_29 rfl ?_
      refine z_iload_n (j := 3) o dJ1_indexOf_4cfef_30 rfl ?_
      refine z_iload_n (j := 1) o dJ1_indexOf_4cfef_31 rfl ?_
      refine z_iload_n (j := 0) o dJ1_indexOf_4cfef_32 rfl ?_
      refine z_callSi (As := [.ref (zsv B 2), .int (nI b), .int 0, .int 3]) (n := 4) (st := []) o dJ1_indexOf_4cfef_33 (c_J1_indexOfChar_2 hB M N b (by omega)) zc_J1_95 (by decide) rfl rfl (Nat.le_of_ble_eq_true rfl) (fun r6 g7 p8 => ?_)
      obtain ⟨rfl, rfl⟩ := p8
      exact kret _ _ _ _ dJ1_indexOf_4cfef_36 ⟨rfl, rfl⟩
    · exact absurd c5 (by decide)
  · exact absurd c4 (by decide)

set_option maxHeartbeats 4000000 in
set_option maxRecDepth 100000 in
theorem c_J0_indexOf2_2 {B : zB} (hB : znn B = 95) (M : zM) (N : zN) (b : Nat) (hb : b < 256) : zCi B (zg B M N) yJ0_indexOf_7cf53 cJ0_indexOf_7cf53 3 (some .int) 2 [.ref (zsq B 2), .int (nI b), .int 0] (fun r g' => g' = zg B M N ∧ r = sp_nm 1 (nI b)) := by
  refine zCi_of (by decide +kernel) (Nat.le_of_ble_eq_true rfl) .int rfl (fun _ _ _ => rfl) ?_
  intro X o kret
  show zW X B (zg B M N) 0 [(0, .ref (zsq B 2)), (1, .int (nI b)), (2, .int 0)] []
  refine z_aload_n (j := 0) o dJ0_indexOf_7cf53_0 rfl ?_
  refine z_callTi (As := []) (n := 0) (st := []) o dJ0_indexOf_7cf53_1 (c_J0_isLatin1_2 hB M N) zc_J0_492 (by decide) (k := 2) (by decide) rfl rfl rfl (Nat.le_of_ble_eq_true rfl) (fun r1 g2 p3 => ?_)
  obtain ⟨rfl, rfl⟩ := p3
  refine z_ifeq (tgt := 23) o dJ0_indexOf_7cf53_4 (by decide) (fun c4 => ?_) (fun c4 => ?_)
  · exact absurd c4 (by decide)
  · refine z_aload_n (j := 0) o dJ0_indexOf_7cf53_7 rfl ?_
    refine z_sval (k := 2) o dJ0_indexOf_7cf53_8 (by decide) (zTB_in (k := 1338) (by decide +kernel) rfl) ?_
    refine z_iload_n (j := 1) o dJ0_indexOf_7cf53_11 rfl ?_
    refine z_iload_n (j := 2) o dJ0_indexOf_7cf53_12 rfl ?_
    refine z_aload_n (j := 0) o dJ0_indexOf_7cf53_13 rfl ?_
    refine z_callTi (As := []) (n := 0) (st := [.int 0, .int (nI b), .ref (zsv B 2)]) o dJ0_indexOf_7cf53_14 (c_J0_length_2 hB M N) zc_J0_505 (by decide) (k := 2) (by decide) rfl rfl rfl (Nat.le_of_ble_eq_true rfl) (fun r5 g6 p7 => ?_)
    obtain ⟨rfl, rfl⟩ := p7
    refine z_callSi (As := [.ref (zsv B 2), .int (nI b), .int 0, .int 3]) (n := 4) (st := []) o dJ0_indexOf_7cf53_17 (c_J1_indexOf_2 hB M N b (by omega)) zc_J0_637 (by decide) rfl rfl (Nat.le_of_ble_eq_true rfl) (fun r8 g9 p10 => ?_)
    obtain ⟨rfl, rfl⟩ := p10
    refine z_goto (tgt := 36) o dJ0_indexOf_7cf53_20 (by decide) ?_
    exact kret _ _ _ _ dJ0_indexOf_7cf53_36 ⟨rfl, rfl⟩

set_option maxHeartbeats 4000000 in
set_option maxRecDepth 100000 in
theorem c_J0_indexOf_2 {B : zB} (hB : znn B = 95) (M : zM) (N : zN) (b : Nat) (hb : b < 256) : zCi B (zg B M N) yJ0_indexOf_0f7a4 cJ0_indexOf_0f7a4 2 (some .int) 3 [.ref (zsq B 2), .int (nI b)] (fun r g' => g' = zg B M N ∧ r = sp_nm 1 (nI b)) := by
  refine zCi_of (by decide +kernel) (Nat.le_of_ble_eq_true rfl) .int rfl (fun _ _ _ => rfl) ?_
  intro X o kret
  show zW X B (zg B M N) 0 [(0, .ref (zsq B 2)), (1, .int (nI b))] []
  refine z_aload_n (j := 0) o dJ0_indexOf_0f7a4_0 rfl ?_
  refine z_iload_n (j := 1) o dJ0_indexOf_0f7a4_1 rfl ?_
  refine z_iconst (v := 0) o dJ0_indexOf_0f7a4_2 (by decide) ?_
  refine z_callTi (As := [.int (nI b), .int 0]) (n := 2) (st := []) o dJ0_indexOf_0f7a4_3 (c_J0_indexOf2_2 hB M N b (by omega)) zc_J0_633 (by decide) (k := 2) (by decide) rfl rfl rfl (Nat.le_of_ble_eq_true rfl) (fun r1 g2 p3 => ?_)
  obtain ⟨rfl, rfl⟩ := p3
  exact kret _ _ _ _ dJ0_indexOf_0f7a4_6 ⟨rfl, rfl⟩

