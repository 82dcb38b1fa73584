/-! the reference: laws worked out, what they give -/
set_option maxHeartbeats 4000000 in
set_option maxRecDepth 100000 in
theorem c_X8_works {B : zB} (hB : znn B = 95) (M : zM) (N : zN) (u L : Nat) (hu : u < 2) (hL : M 83 (282 + 121 * u) = nI L) (hL60 : L ≤ 60) (hwf : zWf (sp_A (M 83) u) (sp_W (M 83) u) L) : zCi B (zg B M N) yX8_works cX8_works 5 (some .int) 1 [zref B 82, .int (nI (282 + 121 * u))] (fun r g' => ∃ P, g' = zg B (va_up M 93 P) N ∧ r = sp_res (sp_wk (sp_A (M 83) u) (sp_W (M 83) u) (M 92) L)) := by
  refine zCi_of (by decide +kernel) (Nat.le_of_ble_eq_true rfl) .int rfl (fun _ _ _ => rfl) ?_
  intro X o kret
  show zW X B (zg B M N) 0 [(0, zref B 82), (1, .int (nI (282 + 121 * u)))] []
  obtain ⟨dp, d0, hst, hdL⟩ := hwf
  have hdk := zWf_le d0 hst
  refine z_iconst (v := 0) o dX8_works_0 (by decide) ?_
  refine z_istore_n (i := 2) (lv2 := [(2, .int 0), (0, zref B 82), (1, .int (nI (282 + 121 * u)))]) o dX8_works_1 rfl (by decide) rfl ?_
  refine z_iconst (v := 0) o dX8_works_2 (by decide) ?_
  refine z_istore_n (i := 3) (lv2 := [(3, .int 0), (2, .int 0), (0, zref B 82), (1, .int (nI (282 + 121 * u)))]) o dX8_works_3 rfl (by decide) rfl ?_
  have LOOP : ∀ nq kq : Nat, kq + nq = L → ∀ P : Nat → Int32, zPl P (sp_wk (sp_A (M 83) u) (sp_W (M 83) u) (M 92) kq) → (sp_wk (sp_A (M 83) u) (sp_W (M 83) u) (M 92) kq).length = dp kq → zW X B (zg B (va_up M 93 P) N) 4 [(3, .int (nI kq)), (2, .int (nI (dp kq))), (0, zref B 82), (1, .int (nI (282 + 121 * u)))] [] := by
    intro nq
    induction nq with
    | zero =>
      intro kq hkq P hP hl
      have hz : kq = L := by omega
      have hdp := hdk kq (by omega)
      have h1d : 1 ≤ dp kq := by rw [hz]; exact hdL
      refine z_iload_n (j := 0) o dX8_works_4 rfl ?_
      refine z_aload_n (j := 2) o dX8_works_5 rfl ?_
      refine zo_get (i := 82) o hB dX8_works_6 zf_X8_9 rfl (by decide) rfl ?_
      refine z_iload_n (j := 3) o dX8_works_9 rfl ?_
      refine zo_iald (i := 83) (j := 282 + 121 * u) o hB dX8_works_10 rfl (show 282 + 121 * u < 524 by omega) (by decide) ?_
      refine zo_rw (y := M 83 (282 + 121 * u)) (rfl) ?_
      refine zo_rw (y := nI L) (hL) ?_
      refine z_icmpge (tgt := 155) o dX8_works_11 (by decide) (fun c1 => ?_) (fun c1 => ?_)
      · refine z_aload_n (j := 2) o dX8_works_155 rfl ?_
        refine zo_get (i := 82) o hB dX8_works_156 zf_X8_40 rfl (by decide) rfl ?_
        refine z_iconst (v := 0) o dX8_works_159 (by decide) ?_
        refine zo_iald (i := 93) (j := 0) o hB dX8_works_160 rfl (show 0 < 60 by omega) (by decide) ?_
        refine zo_rw (y := P 0) (by rw [va_up_self]) ?_
        exact kret _ _ _ _ dX8_works_161 ⟨P, rfl, by
                    obtain ⟨x, t, e1, e2, -⟩ := zPl_one hP hl h1d
                    have h9 := hP ((sp_wk (sp_A (M 83) u) (sp_W (M 83) u) (M 92) kq).length - 1) (by omega)
                    rw [Nat.sub_self] at h9
                    rw [← hz]; exact h9⟩
      · exact absurd c1 (nI_nlt (a := kq) (b := L) (by omega) (by omega))
    | succ nq ih =>
      intro kq hkq P hP hl
      have hlt : kq < L := by omega
      have hdp := hdk kq (by omega)
      have hd60 : dp kq < 60 := by omega
      rcases hst kq hlt with ⟨e1, ed⟩ | ⟨e1, ew, ed⟩ | ⟨e1, e0, ed⟩ | ⟨n1, n2, n3, e0, ed⟩
      · refine z_iload_n (j := 0) o dX8_works_4 rfl ?_
        refine z_aload_n (j := 2) o dX8_works_5 rfl ?_
        refine zo_get (i := 82) o hB dX8_works_6 zf_X8_9 rfl (by decide) rfl ?_
        refine z_iload_n (j := 3) o dX8_works_9 rfl ?_
        refine zo_iald (i := 83) (j := 282 + 121 * u) o hB dX8_works_10 rfl (show 282 + 121 * u < 524 by omega) (by decide) ?_
        refine zo_rw (y := M 83 (282 + 121 * u)) (rfl) ?_
        refine zo_rw (y := nI L) (hL) ?_
        refine z_icmpge (tgt := 155) o dX8_works_11 (by decide) (fun c2 => ?_) (fun c2 => ?_)
        · exact absurd (nI_lt (a := kq) (b := L) (by omega) (by omega)) c2
        · refine z_aload_n (j := 2) o dX8_works_14 rfl ?_
          refine zo_get (i := 82) o hB dX8_works_15 zf_X8_9 rfl (by decide) rfl ?_
          refine z_iload_n (j := 3) o dX8_works_18 rfl ?_
          refine z_iconst (v := 1) o dX8_works_19 (by decide) ?_
          refine z_iadd o dX8_works_20 ?_
          refine zo_rw (y := nI (282 + 121 * u + 1)) (zn_add (rfl) (rfl)) ?_
          refine z_iload_n (j := 0) o dX8_works_21 rfl ?_
          refine z_iadd o dX8_works_22 ?_
          refine zo_rw (y := nI (282 + 121 * u + 1 + kq)) (zn_add (rfl) (rfl)) ?_
          refine zo_iald (i := 83) (j := 282 + 121 * u + 1 + kq) o hB dX8_works_23 rfl (show 282 + 121 * u + 1 + kq < 524 by omega) (by decide) ?_
          refine zo_rw (y := M 83 (282 + 121 * u + 1 + kq)) (rfl) ?_
          refine zo_rw (y := 1) (e1) ?_
          refine z_istore (i := 4) (lv2 := [(4, .int 1), (3, .int (nI kq)), (2, .int (nI (dp kq))), (0, zref B 82), (1, .int (nI (282 + 121 * u)))]) o dX8_works_24 (by decide) rfl ?_
          refine z_iload (j := 0) o dX8_works_26 rfl ?_
          refine z_iconst (v := 1) o dX8_works_28 (by decide) ?_
          refine z_icmpeq (tgt := 38) o dX8_works_29 (by decide) (fun c3 => ?_) (fun c3 => ?_)
          · refine z_aload_n (j := 3) o dX8_works_38 rfl ?_
            refine zo_get (i := 82) o hB dX8_works_39 zf_X8_40 rfl (by decide) rfl ?_
            refine z_iload_n (j := 2) o dX8_works_42 rfl ?_
            refine z_iload (j := 0) o dX8_works_43 rfl ?_
            refine z_iconst (v := 1) o dX8_works_45 (by decide) ?_
            refine z_icmpne (tgt := 63) o dX8_works_46 (by decide) (fun c4 => ?_) (fun c4 => ?_)
            · exact absurd (congrArg nI (show 1 = 1 by omega)) c4
            · refine z_aload_n (j := 3) o dX8_works_49 rfl ?_
              refine zo_get (i := 82) o hB dX8_works_50 zf_X8_9 rfl (by decide) rfl ?_
              refine z_iload_n (j := 4) o dX8_works_53 rfl ?_
              refine z_bipush (v := 61) o dX8_works_54 (by decide) ?_
              refine z_iadd o dX8_works_56 ?_
              refine zo_rw (y := nI (282 + 121 * u + 61)) (zn_add (rfl) (rfl)) ?_
              refine z_iload_n (j := 1) o dX8_works_57 rfl ?_
              refine z_iadd o dX8_works_58 ?_
              refine zo_rw (y := nI (282 + 121 * u + 61 + kq)) (zn_add (rfl) (rfl)) ?_
              refine zo_iald (i := 83) (j := 282 + 121 * u + 61 + kq) o hB dX8_works_59 rfl (show 282 + 121 * u + 61 + kq < 524 by omega) (by decide) ?_
              refine zo_rw (y := M 83 (282 + 121 * u + 61 + kq)) (rfl) ?_
              refine z_goto (tgt := 79) o dX8_works_60 (by decide) ?_
              refine zo_iast (i := 93) (j := dp kq) o hB dX8_works_79 rfl (show dp kq < 60 by omega) (by decide) ?_
              rw [zu_va]
              refine z_iinc (j := 2) (v := nI (dp kq + 1)) (lv2 := [(2, .int (nI (dp kq + 1))), (4, .int 1), (3, .int (nI kq)), (0, zref B 82), (1, .int (nI (282 + 121 * u)))]) o dX8_works_80 rfl (zn_ofInt _) (by decide) rfl ?_
              refine z_goto (tgt := 149) o dX8_works_83 (by decide) ?_
              refine z_iinc (j := 2) (v := nI (kq + 1)) (lv2 := [(3, .int (nI (kq + 1))), (2, .int (nI (dp kq + 1))), (4, .int 1), (0, zref B 82), (1, .int (nI (282 + 121 * u)))]) o dX8_works_149 rfl (zn_ofInt _) (by decide) rfl ?_
              refine z_goto (tgt := 4) o dX8_works_152 (by decide) ?_
              refine zo_lv [0, 1, 3, 4] rfl ?_
              have es : sp_wk (sp_A (M 83) u) (sp_W (M 83) u) (M 92) (kq + 1) = M 83 (282 + 121 * u + 61 + kq) :: (sp_wk (sp_A (M 83) u) (sp_W (M 83) u) (M 92) kq) := by show sp_stp _ _ _ _ = _; unfold sp_stp; rw [if_pos e1]; rfl
              have hh := ih (kq + 1) (by omega) (upd P (dp kq) (M 83 (282 + 121 * u + 61 + kq))) (by rw [es]; exact zPl_push hP hl _) (by rw [es, List.length_cons, hl]; omega)
              rw [ed] at hh
              exact hh
          · exact absurd (congrArg nI (show 1 = 1 by omega)) c3
      · obtain ⟨w, hw2, ew⟩ := ew
        refine z_iload_n (j := 0) o dX8_works_4 rfl ?_
        refine z_aload_n (j := 2) o dX8_works_5 rfl ?_
        refine zo_get (i := 82) o hB dX8_works_6 zf_X8_9 rfl (by decide) rfl ?_
        refine z_iload_n (j := 3) o dX8_works_9 rfl ?_
        refine zo_iald (i := 83) (j := 282 + 121 * u) o hB dX8_works_10 rfl (show 282 + 121 * u < 524 by omega) (by decide) ?_
        refine zo_rw (y := M 83 (282 + 121 * u)) (rfl) ?_
        refine zo_rw (y := nI L) (hL) ?_
        refine z_icmpge (tgt := 155) o dX8_works_11 (by decide) (fun c5 => ?_) (fun c5 => ?_)
        · exact absurd (nI_lt (a := kq) (b := L) (by omega) (by omega)) c5
        · refine z_aload_n (j := 2) o dX8_works_14 rfl ?_
          refine zo_get (i := 82) o hB dX8_works_15 zf_X8_9 rfl (by decide) rfl ?_
          refine z_iload_n (j := 3) o dX8_works_18 rfl ?_
          refine z_iconst (v := 1) o dX8_works_19 (by decide) ?_
          refine z_iadd o dX8_works_20 ?_
          refine zo_rw (y := nI (282 + 121 * u + 1)) (zn_add (rfl) (rfl)) ?_
          refine z_iload_n (j := 0) o dX8_works_21 rfl ?_
          refine z_iadd o dX8_works_22 ?_
          refine zo_rw (y := nI (282 + 121 * u + 1 + kq)) (zn_add (rfl) (rfl)) ?_
          refine zo_iald (i := 83) (j := 282 + 121 * u + 1 + kq) o hB dX8_works_23 rfl (show 282 + 121 * u + 1 + kq < 524 by omega) (by decide) ?_
          refine zo_rw (y := M 83 (282 + 121 * u + 1 + kq)) (rfl) ?_
          refine zo_rw (y := 2) (e1) ?_
          refine z_istore (i := 4) (lv2 := [(4, .int 2), (3, .int (nI kq)), (2, .int (nI (dp kq))), (0, zref B 82), (1, .int (nI (282 + 121 * u)))]) o dX8_works_24 (by decide) rfl ?_
          refine z_iload (j := 0) o dX8_works_26 rfl ?_
          refine z_iconst (v := 1) o dX8_works_28 (by decide) ?_
          refine z_icmpeq (tgt := 38) o dX8_works_29 (by decide) (fun c6 => ?_) (fun c6 => ?_)
          · exact absurd ((nI_eq (a := 2) (b := 1) (by omega) (by omega)).mp c6) (by omega)
          · refine z_iload (j := 0) o dX8_works_32 rfl ?_
            refine z_iconst (v := 2) o dX8_works_34 (by decide) ?_
            refine z_icmpne (tgt := 86) o dX8_works_35 (by decide) (fun c7 => ?_) (fun c7 => ?_)
            · exact absurd (congrArg nI (show 2 = 2 by omega)) c7
            · refine z_aload_n (j := 3) o dX8_works_38 rfl ?_
              refine zo_get (i := 82) o hB dX8_works_39 zf_X8_40 rfl (by decide) rfl ?_
              refine z_iload_n (j := 2) o dX8_works_42 rfl ?_
              refine z_iload (j := 0) o dX8_works_43 rfl ?_
              refine z_iconst (v := 1) o dX8_works_45 (by decide) ?_
              refine z_icmpne (tgt := 63) o dX8_works_46 (by decide) (fun c8 => ?_) (fun c8 => ?_)
              · refine z_aload_n (j := 3) o dX8_works_63 rfl ?_
                refine zo_get (i := 82) o hB dX8_works_64 zf_X8_37 rfl (by decide) rfl ?_
                refine z_aload_n (j := 3) o dX8_works_67 rfl ?_
                refine zo_get (i := 82) o hB dX8_works_68 zf_X8_9 rfl (by decide) rfl ?_
                refine z_iload_n (j := 4) o dX8_works_71 rfl ?_
                refine z_bipush (v := 61) o dX8_works_72 (by decide) ?_
                refine z_iadd o dX8_works_74 ?_
                refine zo_rw (y := nI (282 + 121 * u + 61)) (zn_add (rfl) (rfl)) ?_
                refine z_iload_n (j := 1) o dX8_works_75 rfl ?_
                refine z_iadd o dX8_works_76 ?_
                refine zo_rw (y := nI (282 + 121 * u + 61 + kq)) (zn_add (rfl) (rfl)) ?_
                refine zo_iald (i := 83) (j := 282 + 121 * u + 61 + kq) o hB dX8_works_77 rfl (show 282 + 121 * u + 61 + kq < 524 by omega) (by decide) ?_
                refine zo_rw (y := M 83 (282 + 121 * u + 61 + kq)) (rfl) ?_
                refine zo_rw (y := nI w) (ew) ?_
                refine zo_iald (i := 92) (j := w) o hB dX8_works_78 rfl (show w < 3 by omega) (by decide) ?_
                refine zo_rw (y := M 92 w) (rfl) ?_
                refine zo_iast (i := 93) (j := dp kq) o hB dX8_works_79 rfl (show dp kq < 60 by omega) (by decide) ?_
                rw [zu_va]
                refine z_iinc (j := 2) (v := nI (dp kq + 1)) (lv2 := [(2, .int (nI (dp kq + 1))), (4, .int 2), (3, .int (nI kq)), (0, zref B 82), (1, .int (nI (282 + 121 * u)))]) o dX8_works_80 rfl (zn_ofInt _) (by decide) rfl ?_
                refine z_goto (tgt := 149) o dX8_works_83 (by decide) ?_
                refine z_iinc (j := 2) (v := nI (kq + 1)) (lv2 := [(3, .int (nI (kq + 1))), (2, .int (nI (dp kq + 1))), (4, .int 2), (0, zref B 82), (1, .int (nI (282 + 121 * u)))]) o dX8_works_149 rfl (zn_ofInt _) (by decide) rfl ?_
                refine z_goto (tgt := 4) o dX8_works_152 (by decide) ?_
                refine zo_lv [0, 1, 3, 4] rfl ?_
                have es : sp_wk (sp_A (M 83) u) (sp_W (M 83) u) (M 92) (kq + 1) = M 92 w :: (sp_wk (sp_A (M 83) u) (sp_W (M 83) u) (M 92) kq) := by show sp_stp _ _ _ _ = _; unfold sp_stp; rw [if_neg (by rw [show sp_A (M 83) u kq = 2 from e1]; decide), if_pos e1, show sp_W (M 83) u kq = nI w from ew, zn_nI (by omega)]
                have hh := ih (kq + 1) (by omega) (upd P (dp kq) (M 92 w)) (by rw [es]; exact zPl_push hP hl _) (by rw [es, List.length_cons, hl]; omega)
                rw [ed] at hh
                exact hh
              · exact absurd ((nI_eq (a := 2) (b := 1) (by omega) (by omega)).mp c8) (by omega)
      · obtain ⟨x, t, el, ex, hx⟩ := zPl_one hP hl e0
        refine z_iload_n (j := 0) o dX8_works_4 rfl ?_
        refine z_aload_n (j := 2) o dX8_works_5 rfl ?_
        refine zo_get (i := 82) o hB dX8_works_6 zf_X8_9 rfl (by decide) rfl ?_
        refine z_iload_n (j := 3) o dX8_works_9 rfl ?_
        refine zo_iald (i := 83) (j := 282 + 121 * u) o hB dX8_works_10 rfl (show 282 + 121 * u < 524 by omega) (by decide) ?_
        refine zo_rw (y := M 83 (282 + 121 * u)) (rfl) ?_
        refine zo_rw (y := nI L) (hL) ?_
        refine z_icmpge (tgt := 155) o dX8_works_11 (by decide) (fun c9 => ?_) (fun c9 => ?_)
        · exact absurd (nI_lt (a := kq) (b := L) (by omega) (by omega)) c9
        · refine z_aload_n (j := 2) o dX8_works_14 rfl ?_
          refine zo_get (i := 82) o hB dX8_works_15 zf_X8_9 rfl (by decide) rfl ?_
          refine z_iload_n (j := 3) o dX8_works_18 rfl ?_
          refine z_iconst (v := 1) o dX8_works_19 (by decide) ?_
          refine z_iadd o dX8_works_20 ?_
          refine zo_rw (y := nI (282 + 121 * u + 1)) (zn_add (rfl) (rfl)) ?_
          refine z_iload_n (j := 0) o dX8_works_21 rfl ?_
          refine z_iadd o dX8_works_22 ?_
          refine zo_rw (y := nI (282 + 121 * u + 1 + kq)) (zn_add (rfl) (rfl)) ?_
          refine zo_iald (i := 83) (j := 282 + 121 * u + 1 + kq) o hB dX8_works_23 rfl (show 282 + 121 * u + 1 + kq < 524 by omega) (by decide) ?_
          refine zo_rw (y := M 83 (282 + 121 * u + 1 + kq)) (rfl) ?_
          refine zo_rw (y := 3) (e1) ?_
          refine z_istore (i := 4) (lv2 := [(4, .int 3), (3, .int (nI kq)), (2, .int (nI (dp kq))), (0, zref B 82), (1, .int (nI (282 + 121 * u)))]) o dX8_works_24 (by decide) rfl ?_
          refine z_iload (j := 0) o dX8_works_26 rfl ?_
          refine z_iconst (v := 1) o dX8_works_28 (by decide) ?_
          refine z_icmpeq (tgt := 38) o dX8_works_29 (by decide) (fun c10 => ?_) (fun c10 => ?_)
          · exact absurd ((nI_eq (a := 3) (b := 1) (by omega) (by omega)).mp c10) (by omega)
          · refine z_iload (j := 0) o dX8_works_32 rfl ?_
            refine z_iconst (v := 2) o dX8_works_34 (by decide) ?_
            refine z_icmpne (tgt := 86) o dX8_works_35 (by decide) (fun c11 => ?_) (fun c11 => ?_)
            · refine z_iload (j := 0) o dX8_works_86 rfl ?_
              refine z_iconst (v := 3) o dX8_works_88 (by decide) ?_
              refine z_icmpne (tgt := 119) o dX8_works_89 (by decide) (fun c12 => ?_) (fun c12 => ?_)
              · exact absurd (congrArg nI (show 3 = 3 by omega)) c12
              · refine z_aload_n (j := 3) o dX8_works_92 rfl ?_
                refine zo_get (i := 82) o hB dX8_works_93 zf_X8_40 rfl (by decide) rfl ?_
                refine z_iload_n (j := 2) o dX8_works_96 rfl ?_
                refine z_iconst (v := 1) o dX8_works_97 (by decide) ?_
                refine z_isub o dX8_works_98 ?_
                refine zo_rw (y := nI (dp kq - 1)) (zn_sub (rfl) (rfl) (by omega)) ?_
                refine z_aload_n (j := 3) o dX8_works_99 rfl ?_
                refine zo_get (i := 82) o hB dX8_works_100 zf_X8_40 rfl (by decide) rfl ?_
                refine z_iload_n (j := 2) o dX8_works_103 rfl ?_
                refine z_iconst (v := 1) o dX8_works_104 (by decide) ?_
                refine z_isub o dX8_works_105 ?_
                refine zo_rw (y := nI (dp kq - 1)) (zn_sub (rfl) (rfl) (by omega)) ?_
                refine zo_iald (i := 93) (j := dp kq - 1) o hB dX8_works_106 rfl (show dp kq - 1 < 60 by omega) (by decide) ?_
                refine zo_rw (y := P (dp kq - 1)) (by rw [va_up_self]) ?_
                refine zo_rw (y := x) (ex) ?_
                have J14 : zW X B (zg B (va_up M 93 P) N) 115 [(4, .int 3), (3, .int (nI kq)), (2, .int (nI (dp kq))), (0, zref B 82), (1, .int (nI (282 + 121 * u)))] [.int (if x = 0 then 1 else 0), .int (nI (dp kq - 1)), zref B 93] := by
                  refine zo_iast (i := 93) (j := dp kq - 1) o hB dX8_works_115 rfl (show dp kq - 1 < 60 by omega) (by decide) ?_
                  rw [zu_va]
                  refine z_goto (tgt := 149) o dX8_works_116 (by decide) ?_
                  refine z_iinc (j := 1) (v := nI (kq + 1)) (lv2 := [(3, .int (nI (kq + 1))), (4, .int 3), (2, .int (nI (dp kq))), (0, zref B 82), (1, .int (nI (282 + 121 * u)))]) o dX8_works_149 rfl (zn_ofInt _) (by decide) rfl ?_
                  refine z_goto (tgt := 4) o dX8_works_152 (by decide) ?_
                  refine zo_lv [0, 2, 3, 4] rfl ?_
                  have es : sp_wk (sp_A (M 83) u) (sp_W (M 83) u) (M 92) (kq + 1) = (if x = 0 then 1 else 0) :: t := by show sp_stp _ _ _ _ = _; unfold sp_stp; rw [if_neg (by rw [show sp_A (M 83) u kq = 3 from e1]; decide), if_neg (by rw [show sp_A (M 83) u kq = 3 from e1]; decide), if_pos e1, el]
                  have hh := ih (kq + 1) (by omega) (upd P (dp kq - 1) (if x = 0 then 1 else 0)) (by rw [es]; exact (hx _).1) (by rw [es, ed]; exact (hx _).2)
                  rw [ed] at hh
                  exact hh
                refine z_ifne (tgt := 114) o dX8_works_107 (by decide) (fun c13 => ?_) (fun c13 => ?_)
                · refine z_iconst (v := 0) o dX8_works_114 (by decide) ?_
                  rw [if_neg c13] at J14
                  exact J14
                · refine z_iconst (v := 1) o dX8_works_110 (by decide) ?_
                  refine z_goto (tgt := 115) o dX8_works_111 (by decide) ?_
                  rw [if_pos c13] at J14
                  exact J14
            · exact absurd ((nI_eq (a := 3) (b := 2) (by omega) (by omega)).mp c11) (by omega)
      · obtain ⟨y, x, t, el, ey, ex, hx⟩ := zPl_two hP hl e0
        refine z_iload_n (j := 0) o dX8_works_4 rfl ?_
        refine z_aload_n (j := 2) o dX8_works_5 rfl ?_
        refine zo_get (i := 82) o hB dX8_works_6 zf_X8_9 rfl (by decide) rfl ?_
        refine z_iload_n (j := 3) o dX8_works_9 rfl ?_
        refine zo_iald (i := 83) (j := 282 + 121 * u) o hB dX8_works_10 rfl (show 282 + 121 * u < 524 by omega) (by decide) ?_
        refine zo_rw (y := M 83 (282 + 121 * u)) (rfl) ?_
        refine zo_rw (y := nI L) (hL) ?_
        refine z_icmpge (tgt := 155) o dX8_works_11 (by decide) (fun c15 => ?_) (fun c15 => ?_)
        · exact absurd (nI_lt (a := kq) (b := L) (by omega) (by omega)) c15
        · refine z_aload_n (j := 2) o dX8_works_14 rfl ?_
          refine zo_get (i := 82) o hB dX8_works_15 zf_X8_9 rfl (by decide) rfl ?_
          refine z_iload_n (j := 3) o dX8_works_18 rfl ?_
          refine z_iconst (v := 1) o dX8_works_19 (by decide) ?_
          refine z_iadd o dX8_works_20 ?_
          refine zo_rw (y := nI (282 + 121 * u + 1)) (zn_add (rfl) (rfl)) ?_
          refine z_iload_n (j := 0) o dX8_works_21 rfl ?_
          refine z_iadd o dX8_works_22 ?_
          refine zo_rw (y := nI (282 + 121 * u + 1 + kq)) (zn_add (rfl) (rfl)) ?_
          refine zo_iald (i := 83) (j := 282 + 121 * u + 1 + kq) o hB dX8_works_23 rfl (show 282 + 121 * u + 1 + kq < 524 by omega) (by decide) ?_
          refine zo_rw (y := M 83 (282 + 121 * u + 1 + kq)) (rfl) ?_
          refine z_istore (i := 4) (lv2 := [(4, .int (M 83 (282 + 121 * u + 1 + kq))), (3, .int (nI kq)), (2, .int (nI (dp kq))), (0, zref B 82), (1, .int (nI (282 + 121 * u)))]) o dX8_works_24 (by decide) rfl ?_
          refine z_iload (j := 0) o dX8_works_26 rfl ?_
          refine z_iconst (v := 1) o dX8_works_28 (by decide) ?_
          refine z_icmpeq (tgt := 38) o dX8_works_29 (by decide) (fun c16 => ?_) (fun c16 => ?_)
          · exact absurd c16 n1
          · refine z_iload (j := 0) o dX8_works_32 rfl ?_
            refine z_iconst (v := 2) o dX8_works_34 (by decide) ?_
            refine z_icmpne (tgt := 86) o dX8_works_35 (by decide) (fun c17 => ?_) (fun c17 => ?_)
            · refine z_iload (j := 0) o dX8_works_86 rfl ?_
              refine z_iconst (v := 3) o dX8_works_88 (by decide) ?_
              refine z_icmpne (tgt := 119) o dX8_works_89 (by decide) (fun c18 => ?_) (fun c18 => ?_)
              · refine z_iinc (j := 2) (v := nI (dp kq - 1)) (lv2 := [(2, .int (nI (dp kq - 1))), (4, .int (M 83 (282 + 121 * u + 1 + kq))), (3, .int (nI kq)), (0, zref B 82), (1, .int (nI (282 + 121 * u)))]) o dX8_works_119 rfl (zn_dec rfl (by omega)) (by decide) rfl ?_
                refine z_aload_n (j := 3) o dX8_works_122 rfl ?_
                refine zo_get (i := 82) o hB dX8_works_123 zf_X8_40 rfl (by decide) rfl ?_
                refine z_iload_n (j := 0) o dX8_works_126 rfl ?_
                refine z_iconst (v := 1) o dX8_works_127 (by decide) ?_
                refine z_isub o dX8_works_128 ?_
                refine zo_rw (y := nI (dp kq - 1 - 1)) (zn_sub (rfl) (rfl) (by omega)) ?_
                refine z_iload (j := 1) o dX8_works_129 rfl ?_
                refine z_aload_n (j := 3) o dX8_works_131 rfl ?_
                refine zo_get (i := 82) o hB dX8_works_132 zf_X8_40 rfl (by decide) rfl ?_
                refine z_iload_n (j := 0) o dX8_works_135 rfl ?_
                refine z_iconst (v := 1) o dX8_works_136 (by decide) ?_
                refine z_isub o dX8_works_137 ?_
                refine zo_rw (y := nI (dp kq - 1 - 1)) (zn_sub (rfl) (rfl) (by omega)) ?_
                refine zo_iald (i := 93) (j := dp kq - 1 - 1) o hB dX8_works_138 rfl (show dp kq - 1 - 1 < 60 by omega) (by decide) ?_
                refine zo_rw (y := P (dp kq - 1 - 1)) (by rw [va_up_self]) ?_
                refine zo_rw (y := x) (ex) ?_
                refine z_aload_n (j := 3) o dX8_works_139 rfl ?_
                refine zo_get (i := 82) o hB dX8_works_140 zf_X8_40 rfl (by decide) rfl ?_
                refine z_iload_n (j := 0) o dX8_works_143 rfl ?_
                refine zo_iald (i := 93) (j := dp kq - 1) o hB dX8_works_144 rfl (show dp kq - 1 < 60 by omega) (by decide) ?_
                refine zo_rw (y := P (dp kq - 1)) (by rw [va_up_self]) ?_
                refine zo_rw (y := y) (ey) ?_
                refine z_callSi (As := [.int (M 83 (282 + 121 * u + 1 + kq)), .int x, .int y]) (n := 3) (st := [.int (nI (dp kq - 1 - 1)), zref B 93]) o dX8_works_145 (c_X8_twoOf hB (va_up M 93 P) N (M 83 (282 + 121 * u + 1 + kq)) x y) zc_X8_185 (by decide) rfl rfl (Nat.le_of_ble_eq_true rfl) (fun r19 g20 p21 => ?_)
                obtain ⟨rfl, rfl⟩ := p21
                refine zo_iast (i := 93) (j := dp kq - 1 - 1) o hB dX8_works_148 rfl (show dp kq - 1 - 1 < 60 by omega) (by decide) ?_
                rw [zu_va]
                refine z_iinc (j := 2) (v := nI (kq + 1)) (lv2 := [(3, .int (nI (kq + 1))), (2, .int (nI (dp kq - 1))), (4, .int (M 83 (282 + 121 * u + 1 + kq))), (0, zref B 82), (1, .int (nI (282 + 121 * u)))]) o dX8_works_149 rfl (zn_ofInt _) (by decide) rfl ?_
                refine z_goto (tgt := 4) o dX8_works_152 (by decide) ?_
                refine zo_lv [0, 1, 3, 4] rfl ?_
                have es : sp_wk (sp_A (M 83) u) (sp_W (M 83) u) (M 92) (kq + 1) = sp_two (M 83 (282 + 121 * u + 1 + kq)) x y :: t := by show sp_stp _ _ _ _ = _; unfold sp_stp; rw [if_neg n1, if_neg n2, if_neg n3, el]; rfl
                have hh := ih (kq + 1) (by omega) (upd P (dp kq - 1 - 1) (sp_two (M 83 (282 + 121 * u + 1 + kq)) x y)) (by rw [es]; exact (hx _).1) (by rw [es, ed]; exact (hx _).2)
                rw [ed] at hh
                exact hh
              · exact absurd c18 n3
            · exact absurd c17 n2
  refine zo_lv [0, 1, 2, 3] rfl ?_
  have h0 : zW X B (zg B (va_up M 93 (M 93)) N) 4 [(3, .int (nI 0)), (2, .int (nI (dp 0))), (0, zref B 82), (1, .int (nI (282 + 121 * u)))] [] := LOOP L 0 (by omega) (M 93) (fun j hj => by cases hj) (by rw [d0]; rfl)
  rw [va_up_id, d0] at h0
  exact h0

theorem fa_upd3 {F : Nat → Int32} {a b c : Int32} {k : Nat} (h : k ≤ 2) : upd (upd (upd F 0 a) 1 b) 2 c k = sp_fa a b c k := by
  unfold sp_fa upd
  rcases (show k = 0 ∨ k = 1 ∨ k = 2 by omega) with rfl | rfl | rfl <;> rfl
theorem va_up_id' {α : Type} (M : Nat → α) (i : Nat) (f : α) (k : Nat) : va_up M i f = va_up (va_up M i f) k (va_up M i f k) := (va_up_id _ _).symm
set_option maxHeartbeats 4000000 in
set_option maxRecDepth 100000 in
theorem c_X8_gives {B : zB} (hB : znn B = 95) (M : zM) (N : zN) (u : Nat) (a b c : Int32) (hu : u < 2) (hok : zOkAll (M 83)) : zCi B (zg B M N) yX8_gives cX8_gives 7 (some .int) 2 [zref B 82, .int (nI u), .int a, .int b, .int c] (fun r g' => ∃ F P, g' = zg B (va_up (va_up M 92 F) 93 P) N ∧ r = sp_gives (M 83) u a b c) := by
  refine zCi_of (by decide +kernel) (Nat.le_of_ble_eq_true rfl) .int rfl (fun _ _ _ => rfl) ?_
  intro X o kret
  show zW X B (zg B M N) 0 [(0, zref B 82), (1, .int (nI u)), (2, .int a), (3, .int b), (4, .int c)] []
  obtain ⟨hL, hL60, hwf⟩ := zOkAll_u hok hu
  refine z_sipush (v := 282) o dX8_gives_0 (by decide) ?_
  refine z_bipush (v := 121) o dX8_gives_3 (by decide) ?_
  refine z_iload_n (j := 1) o dX8_gives_5 rfl ?_
  refine z_imul o dX8_gives_6 ?_
  refine zo_rw (y := nI (121 * u)) (zn_mul (rfl) (rfl)) ?_
  refine z_iadd o dX8_gives_7 ?_
  refine zo_rw (y := nI (282 + 121 * u)) (zn_add (rfl) (rfl)) ?_
  refine z_istore (i := 5) (lv2 := [(5, .int (nI (282 + 121 * u))), (0, zref B 82), (1, .int (nI u)), (2, .int a), (3, .int b), (4, .int c)]) o dX8_gives_8 (by decide) rfl ?_
  refine z_aload_n (j := 1) o dX8_gives_10 rfl ?_
  refine zo_get (i := 82) o hB dX8_gives_11 zf_X8_37 rfl (by decide) rfl ?_
  refine z_iconst (v := 0) o dX8_gives_14 (by decide) ?_
  refine z_iload_n (j := 3) o dX8_gives_15 rfl ?_
  refine zo_iast (i := 92) (j := 0) o hB dX8_gives_16 rfl (show 0 < 3 by omega) (by decide) ?_
  rw [show zu M 92 0 a = va_up M 92 (upd (M 92) 0 a) from rfl]
  refine z_aload_n (j := 1) o dX8_gives_17 rfl ?_
  refine zo_get (i := 82) o hB dX8_gives_18 zf_X8_37 rfl (by decide) rfl ?_
  refine z_iconst (v := 1) o dX8_gives_21 (by decide) ?_
  refine z_iload_n (j := 4) o dX8_gives_22 rfl ?_
  refine zo_iast (i := 92) (j := 1) o hB dX8_gives_23 rfl (show 1 < 3 by omega) (by decide) ?_
  rw [zu_va]
  refine z_aload_n (j := 1) o dX8_gives_24 rfl ?_
  refine zo_get (i := 82) o hB dX8_gives_25 zf_X8_37 rfl (by decide) rfl ?_
  refine z_iconst (v := 2) o dX8_gives_28 (by decide) ?_
  refine z_iload (j := 5) o dX8_gives_29 rfl ?_
  refine zo_iast (i := 92) (j := 2) o hB dX8_gives_31 rfl (show 2 < 3 by omega) (by decide) ?_
  rw [zu_va]
  refine z_aload_n (j := 1) o dX8_gives_32 rfl ?_
  refine zo_get (i := 82) o hB dX8_gives_33 zf_X8_9 rfl (by decide) rfl ?_
  refine z_iload (j := 0) o dX8_gives_36 rfl ?_
  refine zo_iald (i := 83) (j := 282 + 121 * u) o hB dX8_gives_38 rfl (show 282 + 121 * u < 524 by omega) (by decide) ?_
  refine zo_rw (y := M 83 (282 + 121 * u)) (rfl) ?_
  refine zo_rw (y := nI (sp_len (M 83) u)) (hL) ?_
  refine z_ifle (tgt := 51) o dX8_gives_39 (by decide) (fun c1 => ?_) (fun c1 => ?_)
  · have h0L : ¬ 0 < sp_len (M 83) u := fun q => c1 (nI_lt (a := 0) q (by omega))
    refine z_iload_n (j := 2) o dX8_gives_51 rfl ?_
    refine z_ifne (tgt := 61) o dX8_gives_52 (by decide) (fun c2 => ?_) (fun c2 => ?_)
    · have hu1 : ¬ u = 0 := fun q => c2 (by rw [q]; rfl)
      refine z_iload_n (j := 4) o dX8_gives_61 rfl ?_
      refine z_iconst (v := 1) o dX8_gives_62 (by decide) ?_
      refine z_iadd o dX8_gives_63 ?_
      refine zo_rw (y := sp_raw (M 83) u a b c) (by unfold sp_raw; rw [if_neg h0L, if_neg hu1]) ?_
      refine z_istore (i := 6) (lv2 := [(6, .int (sp_raw (M 83) u a b c)), (5, .int (nI (282 + 121 * u))), (0, zref B 82), (1, .int (nI u)), (2, .int a), (3, .int b), (4, .int c)]) o dX8_gives_64 (by decide) rfl ?_
      refine z_iload_n (j := 3) o dX8_gives_66 rfl ?_
      refine z_ifne (tgt := 82) o dX8_gives_67 (by decide) (fun c3 => ?_) (fun c3 => ?_)
      · have hv1 : ¬ u = 0 := fun q => c3 (by rw [q]; rfl)
        refine z_iload (j := 0) o dX8_gives_82 rfl ?_
        refine z_bipush (v := (-9)) o dX8_gives_84 (by decide) ?_
        refine z_bipush (v := 9) o dX8_gives_86 (by decide) ?_
        refine z_callSi (As := [.int (sp_raw (M 83) u a b c), .int (-9), .int 9]) (n := 3) (st := []) o dX8_gives_88 (c_X8_held hB (va_up M 92 (upd (upd (upd (M 92) 0 a) 1 b) 2 c)) N (sp_raw (M 83) u a b c) (-9) 9) zc_X8_192 (by decide) rfl rfl (Nat.le_of_ble_eq_true rfl) (fun r4 g5 p6 => ?_)
        obtain ⟨rfl, rfl⟩ := p6
        exact kret _ _ _ _ dX8_gives_91 ⟨upd (upd (upd (M 92) 0 a) 1 b) 2 c, _, congrArg (fun m => zg B m N) (va_up_id _ 93).symm, by unfold sp_gives; rw [if_neg hv1]⟩
      · have hv0 : u = 0 := (nI_eq (b := 0) (by omega) (by decide)).mp c3
        refine z_iload (j := 0) o dX8_gives_70 rfl ?_
        refine z_iconst (v := 0) o dX8_gives_72 (by decide) ?_
        refine z_sipush (v := 999) o dX8_gives_73 (by decide) ?_
        refine z_callSi (As := [.int (sp_raw (M 83) u a b c), .int 0, .int 999]) (n := 3) (st := []) o dX8_gives_76 (c_X8_held hB (va_up M 92 (upd (upd (upd (M 92) 0 a) 1 b) 2 c)) N (sp_raw (M 83) u a b c) 0 999) zc_X8_192 (by decide) rfl rfl (Nat.le_of_ble_eq_true rfl) (fun r7 g8 p9 => ?_)
        obtain ⟨rfl, rfl⟩ := p9
        refine z_goto (tgt := 91) o dX8_gives_79 (by decide) ?_
        exact kret _ _ _ _ dX8_gives_91 ⟨upd (upd (upd (M 92) 0 a) 1 b) 2 c, _, congrArg (fun m => zg B m N) (va_up_id _ 93).symm, by unfold sp_gives; rw [if_pos hv0]⟩
    · have hu0 : u = 0 := (nI_eq (b := 0) (by omega) (by decide)).mp c2
      refine z_iload_n (j := 3) o dX8_gives_55 rfl ?_
      refine z_iload_n (j := 4) o dX8_gives_56 rfl ?_
      refine z_iadd o dX8_gives_57 ?_
      refine z_goto (tgt := 64) o dX8_gives_58 (by decide) ?_
      refine zo_rw (y := sp_raw (M 83) u a b c) (by unfold sp_raw; rw [if_neg h0L, if_pos hu0]) ?_
      refine z_istore (i := 6) (lv2 := [(6, .int (sp_raw (M 83) u a b c)), (5, .int (nI (282 + 121 * u))), (0, zref B 82), (1, .int (nI u)), (2, .int a), (3, .int b), (4, .int c)]) o dX8_gives_64 (by decide) rfl ?_
      refine z_iload_n (j := 3) o dX8_gives_66 rfl ?_
      refine z_ifne (tgt := 82) o dX8_gives_67 (by decide) (fun c10 => ?_) (fun c10 => ?_)
      · have hv1 : ¬ u = 0 := fun q => c10 (by rw [q]; rfl)
        refine z_iload (j := 0) o dX8_gives_82 rfl ?_
        refine z_bipush (v := (-9)) o dX8_gives_84 (by decide) ?_
        refine z_bipush (v := 9) o dX8_gives_86 (by decide) ?_
        refine z_callSi (As := [.int (sp_raw (M 83) u a b c), .int (-9), .int 9]) (n := 3) (st := []) o dX8_gives_88 (c_X8_held hB (va_up M 92 (upd (upd (upd (M 92) 0 a) 1 b) 2 c)) N (sp_raw (M 83) u a b c) (-9) 9) zc_X8_192 (by decide) rfl rfl (Nat.le_of_ble_eq_true rfl) (fun r11 g12 p13 => ?_)
        obtain ⟨rfl, rfl⟩ := p13
        exact kret _ _ _ _ dX8_gives_91 ⟨upd (upd (upd (M 92) 0 a) 1 b) 2 c, _, congrArg (fun m => zg B m N) (va_up_id _ 93).symm, by unfold sp_gives; rw [if_neg hv1]⟩
      · have hv0 : u = 0 := (nI_eq (b := 0) (by omega) (by decide)).mp c10
        refine z_iload (j := 0) o dX8_gives_70 rfl ?_
        refine z_iconst (v := 0) o dX8_gives_72 (by decide) ?_
        refine z_sipush (v := 999) o dX8_gives_73 (by decide) ?_
        refine z_callSi (As := [.int (sp_raw (M 83) u a b c), .int 0, .int 999]) (n := 3) (st := []) o dX8_gives_76 (c_X8_held hB (va_up M 92 (upd (upd (upd (M 92) 0 a) 1 b) 2 c)) N (sp_raw (M 83) u a b c) 0 999) zc_X8_192 (by decide) rfl rfl (Nat.le_of_ble_eq_true rfl) (fun r14 g15 p16 => ?_)
        obtain ⟨rfl, rfl⟩ := p16
        refine z_goto (tgt := 91) o dX8_gives_79 (by decide) ?_
        exact kret _ _ _ _ dX8_gives_91 ⟨upd (upd (upd (M 92) 0 a) 1 b) 2 c, _, congrArg (fun m => zg B m N) (va_up_id _ 93).symm, by unfold sp_gives; rw [if_pos hv0]⟩
  · have h0L : 0 < sp_len (M 83) u := Classical.byContradiction fun q => nI_pos' (n := 0) (by decide) |> fun _ => by
      have hz9 : sp_len (M 83) u = 0 := by omega
      rw [hz9] at c1
      exact absurd c1 (by decide)
    refine z_aload_n (j := 1) o dX8_gives_42 rfl ?_
    refine z_iload (j := 0) o dX8_gives_43 rfl ?_
    refine z_callVi (As := [.int (nI (282 + 121 * u))]) (n := 1) (st := []) o dX8_gives_45 (c_X8_works hB (va_up M 92 (upd (upd (upd (M 92) 0 a) 1 b) 2 c)) N u (sp_len (M 83) u) hu hL hL60 (hwf h0L)) zc_X8_189 (by decide) (i := 82) (by rw [hB]; exact zsh_lt rfl (by decide)) (zg_o rfl (by decide)) rfl rfl rfl (Nat.le_of_ble_eq_true rfl) (fun r17 g18 p19 => ?_)
    obtain ⟨P, rfl, er17⟩ := p19
    have hraw : r17 = sp_raw (M 83) u a b c := by
      rw [er17, va_up_self]
      unfold sp_raw
      rw [if_pos h0L]
      congr 1
      refine sp_wk_cong (fun k hk h2 => ?_)
      have h2 : sp_A (M 83) u k = 2 := h2
      show upd (upd (upd (M 92) 0 a) 1 b) 2 c (zn (sp_W (M 83) u k)) = sp_fa a b c (zn (sp_W (M 83) u k))
      obtain ⟨dp, -, hst, -⟩ := hwf h0L
      rcases hst k hk with ⟨z1, -⟩ | ⟨-, ⟨wq, hw2, ew⟩, -⟩ | ⟨z1, -⟩ | ⟨-, z1, -⟩
      · rw [h2] at z1; exact absurd z1 (by decide)
      · rw [ew, zn_nI (by omega)]; exact fa_upd3 hw2
      · rw [h2] at z1; exact absurd z1 (by decide)
      · exact absurd h2 z1
    refine z_goto (tgt := 64) o dX8_gives_48 (by decide) ?_
    refine zo_rw (y := sp_raw (M 83) u a b c) (hraw) ?_
    refine z_istore (i := 6) (lv2 := [(6, .int (sp_raw (M 83) u a b c)), (5, .int (nI (282 + 121 * u))), (0, zref B 82), (1, .int (nI u)), (2, .int a), (3, .int b), (4, .int c)]) o dX8_gives_64 (by decide) rfl ?_
    refine z_iload_n (j := 3) o dX8_gives_66 rfl ?_
    refine z_ifne (tgt := 82) o dX8_gives_67 (by decide) (fun c20 => ?_) (fun c20 => ?_)
    · have hv1 : ¬ u = 0 := fun q => c20 (by rw [q]; rfl)
      refine z_iload (j := 0) o dX8_gives_82 rfl ?_
      refine z_bipush (v := (-9)) o dX8_gives_84 (by decide) ?_
      refine z_bipush (v := 9) o dX8_gives_86 (by decide) ?_
      refine z_callSi (As := [.int (sp_raw (M 83) u a b c), .int (-9), .int 9]) (n := 3) (st := []) o dX8_gives_88 (c_X8_held hB (va_up (va_up M 92 (upd (upd (upd (M 92) 0 a) 1 b) 2 c)) 93 P) N (sp_raw (M 83) u a b c) (-9) 9) zc_X8_192 (by decide) rfl rfl (Nat.le_of_ble_eq_true rfl) (fun r21 g22 p23 => ?_)
      obtain ⟨rfl, rfl⟩ := p23
      exact kret _ _ _ _ dX8_gives_91 ⟨upd (upd (upd (M 92) 0 a) 1 b) 2 c, _, rfl, by unfold sp_gives; rw [if_neg hv1]⟩
    · have hv0 : u = 0 := (nI_eq (b := 0) (by omega) (by decide)).mp c20
      refine z_iload (j := 0) o dX8_gives_70 rfl ?_
      refine z_iconst (v := 0) o dX8_gives_72 (by decide) ?_
      refine z_sipush (v := 999) o dX8_gives_73 (by decide) ?_
      refine z_callSi (As := [.int (sp_raw (M 83) u a b c), .int 0, .int 999]) (n := 3) (st := []) o dX8_gives_76 (c_X8_held hB (va_up (va_up M 92 (upd (upd (upd (M 92) 0 a) 1 b) 2 c)) 93 P) N (sp_raw (M 83) u a b c) 0 999) zc_X8_192 (by decide) rfl rfl (Nat.le_of_ble_eq_true rfl) (fun r24 g25 p26 => ?_)
      obtain ⟨rfl, rfl⟩ := p26
      refine z_goto (tgt := 91) o dX8_gives_79 (by decide) ?_
      exact kret _ _ _ _ dX8_gives_91 ⟨upd (upd (upd (M 92) 0 a) 1 b) 2 c, _, rfl, by unfold sp_gives; rw [if_pos hv0]⟩

set_option maxHeartbeats 4000000 in
set_option maxRecDepth 100000 in
theorem c_X8_grazeOf {B : zB} (hB : znn B = 95) (M : zM) (N : zN) (i : Nat) (hi4 : i < 4) (hok : zOkAll (M 83)) : zCi B (zg B M N) yX8_grazeOf cX8_grazeOf 2 (some .int) 3 [zref B 82, .int (nI i)] (fun r g' => ∃ F P, g' = zg B (va_up (va_up M 92 F) 93 P) N ∧ r = sp_graze (M 83) i) := by
  refine zCi_of (by decide +kernel) (Nat.le_of_ble_eq_true rfl) .int rfl (fun _ _ _ => rfl) ?_
  intro X o kret
  show zW X B (zg B M N) 0 [(0, zref B 82), (1, .int (nI i))] []
  refine z_aload_n (j := 0) o dX8_grazeOf_0 rfl ?_
  refine z_iconst (v := 0) o dX8_grazeOf_1 (by decide) ?_
  refine z_aload_n (j := 0) o dX8_grazeOf_2 rfl ?_
  refine z_iload_n (j := 1) o dX8_grazeOf_3 rfl ?_
  refine z_callVl (As := [.int (nI i)]) (n := 1) (st := [.int 0, zref B 82]) o dX8_grazeOf_4 (c_X8_insideOf hB M N i (by omega) hok.1) zc_X8_85 (by decide) (i := 82) (by rw [hB]; exact zsh_lt rfl (by decide)) (zg_o rfl (by decide)) rfl rfl rfl (Nat.le_of_ble_eq_true rfl) (fun r1 g2 p3 => ?_)
  obtain ⟨rfl, rfl⟩ := p3
  refine z_callSi (As := [.long (sp_ins (M 83) i)]) (n := 1) (st := [.int 0, zref B 82]) o dX8_grazeOf_7 (c_X8_bits hB M N (sp_ins (M 83) i)) zc_X8_88 (by decide) rfl rfl (Nat.le_of_ble_eq_true rfl) (fun r4 g5 p6 => ?_)
  obtain ⟨rfl, rfl⟩ := p6
  refine z_aload_n (j := 0) o dX8_grazeOf_10 rfl ?_
  refine z_iload_n (j := 1) o dX8_grazeOf_11 rfl ?_
  refine z_iconst (v := 3) o dX8_grazeOf_12 (by decide) ?_
  refine z_callVi (As := [.int (nI i), .int 3]) (n := 2) (st := [.int (nI (lpop (sp_ins (M 83) i))), .int 0, zref B 82]) o dX8_grazeOf_13 (c_X8_of hB M N i 3 (by omega)) zc_X8_55 (by decide) (i := 82) (by rw [hB]; exact zsh_lt rfl (by decide)) (zg_o rfl (by decide)) rfl rfl rfl (Nat.le_of_ble_eq_true rfl) (fun r7 g8 p9 => ?_)
  obtain ⟨rfl, rfl⟩ := p9
  refine z_aload_n (j := 0) o dX8_grazeOf_16 rfl ?_
  refine z_iload_n (j := 1) o dX8_grazeOf_17 rfl ?_
  refine z_iconst (v := 0) o dX8_grazeOf_18 (by decide) ?_
  refine z_callVi (As := [.int (nI i), .int 0]) (n := 2) (st := [.int (M 83 (6 + 13 * i + 3)), .int (nI (lpop (sp_ins (M 83) i))), .int 0, zref B 82]) o dX8_grazeOf_19 (c_X8_of hB M N i 0 (by omega)) zc_X8_55 (by decide) (i := 82) (by rw [hB]; exact zsh_lt rfl (by decide)) (zg_o rfl (by decide)) rfl rfl rfl (Nat.le_of_ble_eq_true rfl) (fun r10 g11 p12 => ?_)
  obtain ⟨rfl, rfl⟩ := p12
  refine z_callVi (As := [.int 0, .int (nI (lpop (sp_ins (M 83) i))), .int (M 83 (6 + 13 * i + 3)), .int (M 83 (6 + 13 * i + 0))]) (n := 4) (st := []) o dX8_grazeOf_22 (c_X8_gives hB M N 0 (nI (lpop (sp_ins (M 83) i))) (M 83 (6 + 13 * i + 3)) (M 83 (6 + 13 * i + 0)) (by omega) hok) zc_X8_92 (by decide) (i := 82) (by rw [hB]; exact zsh_lt rfl (by decide)) (zg_o rfl (by decide)) rfl rfl rfl (Nat.le_of_ble_eq_true rfl) (fun r13 g14 p15 => ?_)
  obtain ⟨F16, P17, rfl, rfl⟩ := p15
  exact kret _ _ _ _ dX8_grazeOf_25 ⟨_, _, rfl, rfl⟩

