/-! the class: a Fence stands at numbers -/
set_option maxHeartbeats 4000000 in
set_option maxRecDepth 100000 in
theorem c_X0_standAt {B : zB} (hB : znn B = 95) (M : zM) (N : zN) (f i a n s : Nat) (C ρ : Nat → Int32) (hf : zsh f = 0) (hsa : zsh a = 10) (hla : zln a = 24) (hn : n ≤ 24) (ha1 : a ≠ f) (ha2 : a ≠ f + 1) (hC : ∀ j, j < 24 → M a j = C (24 * s + j)) (h4 : ∀ p, p < 8 → M (f + 1) p = ρ (6 + 13 * i + (5 + p))) : zCv B (zg B M N) yX0_standAt cX0_standAt 3 none 1 [zref B f, zref B a, .int (nI n)] (fun g' => ∃ (M1 : zM) (kq : Nat) (ρ1 : Nat → Int32), g' = zg B M1 N ∧ sp_sets C s i (min n 8) 0 ρ = (kq, ρ1) ∧ (∀ j, j ≠ f → j ≠ f + 1 → M1 j = M j) ∧ M1 f 1 = nI kq ∧ (∀ k, k ≠ 1 → M1 f k = M f k) ∧ ∀ p, p < 8 → M1 (f + 1) p = ρ1 (6 + 13 * i + (5 + p))) := by
  refine zCv_of (by decide +kernel) (Nat.le_of_ble_eq_true rfl) ?_
  intro X o kret
  show zW X B (zg B M N) 0 [(0, zref B f), (1, zref B a), (2, .int (nI n))] []
  refine z_aload_n (j := 0) o dX0_standAt_0 rfl ?_
  refine z_iconst (v := 0) o dX0_standAt_1 (by decide) ?_
  refine zo_put (i := f) o hB dX0_standAt_2 zp_X0_25 hf (by decide) (by decide) (Nat.le_of_ble_eq_true rfl) ?_
  have LOOP : ∀ nq kq : Nat, kq + nq = min n 8 → ∀ ρ1 : Nat → Int32, sp_sets C s i (min n 8) 0 ρ = sp_sets C s i nq kq ρ1 → ∀ M1 : zM, (∀ j, j ≠ f → j ≠ f + 1 → M1 j = M j) → M1 f 1 = nI kq → (∀ k, k ≠ 1 → M1 f k = M f k) → (∀ p, p < 8 → M1 (f + 1) p = ρ1 (6 + 13 * i + (5 + p))) → zW X B (zg B M1 N) 5 [(0, zref B f), (1, zref B a), (2, .int (nI n))] [] := by
    intro nq
    induction nq with
    | zero =>
      intro kq hkq ρ1 hs M1 g1 g2 g3 g4
      have hz : n ≤ kq ∨ 8 ≤ kq := by omega
      have hs2 : sp_sets C s i (min n 8) 0 ρ = (kq, ρ1) := hs
      rcases Nat.lt_or_ge kq 8 with z1 | z1
      · have z2 : n ≤ kq := by omega
        refine z_aload_n (j := 0) o dX0_standAt_5 rfl ?_
        refine zo_get (i := f) o hB dX0_standAt_6 zf_X0_25 hf (by decide) (rfl) ?_
        refine zo_rw (y := nI kq) (g2) ?_
        refine z_bipush (v := 8) o dX0_standAt_9 (by decide) ?_
        refine z_icmpge (tgt := 71) o dX0_standAt_11 (by decide) (fun c1 => ?_) (fun c1 => ?_)
        · exact absurd (nI_lt (a := kq) (b := 8) (by omega) (by omega)) c1
        · refine z_aload_n (j := 0) o dX0_standAt_14 rfl ?_
          refine zo_get (i := f) o hB dX0_standAt_15 zf_X0_25 hf (by decide) (rfl) ?_
          refine zo_rw (y := nI kq) (g2) ?_
          refine z_iload_n (j := 2) o dX0_standAt_18 rfl ?_
          refine z_icmpge (tgt := 71) o dX0_standAt_19 (by decide) (fun c2 => ?_) (fun c2 => ?_)
          · exact kret _ _ _ dX0_standAt_71 ⟨M1, _, _, rfl, hs2, g1, g2, g3, g4⟩
          · exact absurd c2 (nI_nlt (a := kq) (b := n) (by omega) (by omega))
      · refine z_aload_n (j := 0) o dX0_standAt_5 rfl ?_
        refine zo_get (i := f) o hB dX0_standAt_6 zf_X0_25 hf (by decide) (rfl) ?_
        refine zo_rw (y := nI kq) (g2) ?_
        refine z_bipush (v := 8) o dX0_standAt_9 (by decide) ?_
        refine z_icmpge (tgt := 71) o dX0_standAt_11 (by decide) (fun c3 => ?_) (fun c3 => ?_)
        · exact kret _ _ _ dX0_standAt_71 ⟨M1, _, _, rfl, hs2, g1, g2, g3, g4⟩
        · exact absurd c3 (nI_nlt (a := kq) (b := 8) (by omega) (by omega))
    | succ nq ih =>
      intro kq hkq ρ1 hs M1 g1 g2 g3 g4
      have hlt : kq < n := by omega
      have hlt2 : kq < 8 := by omega
      have hcell : ∀ j, j < 24 → M1 a j = C (24 * s + j) := fun j hj => by rw [g1 a ha1 ha2]; exact hC j hj
      refine z_aload_n (j := 0) o dX0_standAt_5 rfl ?_
      refine zo_get (i := f) o hB dX0_standAt_6 zf_X0_25 hf (by decide) (rfl) ?_
      refine zo_rw (y := nI kq) (g2) ?_
      refine z_bipush (v := 8) o dX0_standAt_9 (by decide) ?_
      refine z_icmpge (tgt := 71) o dX0_standAt_11 (by decide) (fun c4 => ?_) (fun c4 => ?_)
      · exact absurd (nI_lt (a := kq) (b := 8) (by omega) (by omega)) c4
      · refine z_aload_n (j := 0) o dX0_standAt_14 rfl ?_
        refine zo_get (i := f) o hB dX0_standAt_15 zf_X0_25 hf (by decide) (rfl) ?_
        refine zo_rw (y := nI kq) (g2) ?_
        refine z_iload_n (j := 2) o dX0_standAt_18 rfl ?_
        refine z_icmpge (tgt := 71) o dX0_standAt_19 (by decide) (fun c5 => ?_) (fun c5 => ?_)
        · exact absurd (nI_lt (a := kq) (b := n) (by omega) (by omega)) c5
        · refine z_aload_n (j := 0) o dX0_standAt_22 rfl ?_
          refine zo_get (i := f) o hB dX0_standAt_23 zf_X0_25 hf (by decide) (rfl) ?_
          refine zo_rw (y := nI kq) (g2) ?_
          refine z_aload_n (j := 1) o dX0_standAt_26 rfl ?_
          refine zo_leni (i := a) o hB dX0_standAt_27 hsa ?_
          refine zo_rw (y := nI 24) (by rw [hla]) ?_
          refine z_icmpge (tgt := 71) o dX0_standAt_28 (by decide) (fun c6 => ?_) (fun c6 => ?_)
          · exact absurd (nI_lt (a := kq) (b := 24) (by omega) (by omega)) c6
          · refine z_aload_n (j := 1) o dX0_standAt_31 rfl ?_
            refine z_aload_n (j := 0) o dX0_standAt_32 rfl ?_
            refine zo_get (i := f) o hB dX0_standAt_33 zf_X0_25 hf (by decide) (rfl) ?_
            refine zo_rw (y := nI kq) (g2) ?_
            refine zo_iald (i := a) (j := kq) o hB dX0_standAt_36 hsa (by rw [hla]; omega) (by rw [hla]; decide) ?_
            refine zo_rw (y := C (24 * s + kq)) (hcell kq (by omega)) ?_
            refine z_callSi (As := [.int (C (24 * s + kq))]) (n := 1) (st := []) o dX0_standAt_37 (c_X1_isCell hB M1 N (C (24 * s + kq))) zc_X0_37 (by decide) rfl rfl (Nat.le_of_ble_eq_true rfl) (fun r7 g8 p9 => ?_)
            obtain ⟨rfl, rfl⟩ := p9
            refine zo_rw (y := zin (C (24 * s + kq)) 0 63) (cg_cell_eq _) ?_
            refine z_ifeq (tgt := 71) o dX0_standAt_40 (by decide) (fun c10 => ?_) (fun c10 => ?_)
            · have hs2 : sp_sets C s i (min n 8) 0 ρ = (kq, ρ1) := by
                rw [hs]; show (if zin (C (24 * s + kq)) 0 63 = 0 then (kq, ρ1) else sp_sets C s i nq (kq + 1) (upd ρ1 (6 + 13 * i + (5 + kq)) (C (24 * s + kq)))) = _; rw [if_pos c10]
              exact kret _ _ _ dX0_standAt_71 ⟨M1, _, _, rfl, hs2, g1, g2, g3, g4⟩
            · have hs2 : sp_sets C s i (min n 8) 0 ρ = sp_sets C s i nq (kq + 1) (upd ρ1 (6 + 13 * i + (5 + kq)) (C (24 * s + kq))) := by
                rw [hs]; show (if zin (C (24 * s + kq)) 0 63 = 0 then (kq, ρ1) else sp_sets C s i nq (kq + 1) (upd ρ1 (6 + 13 * i + (5 + kq)) (C (24 * s + kq)))) = _; rw [if_neg c10]
              refine z_aload_n (j := 0) o dX0_standAt_43 rfl ?_
              refine zo_get (i := f) o hB dX0_standAt_44 zf_X0_11 hf (by decide) (rfl) ?_
              refine z_aload_n (j := 0) o dX0_standAt_47 rfl ?_
              refine zo_get (i := f) o hB dX0_standAt_48 zf_X0_25 hf (by decide) (rfl) ?_
              refine zo_rw (y := nI kq) (g2) ?_
              refine z_aload_n (j := 1) o dX0_standAt_51 rfl ?_
              refine z_aload_n (j := 0) o dX0_standAt_52 rfl ?_
              refine zo_get (i := f) o hB dX0_standAt_53 zf_X0_25 hf (by decide) (rfl) ?_
              refine zo_rw (y := nI kq) (g2) ?_
              refine zo_iald (i := a) (j := kq) o hB dX0_standAt_56 hsa (by rw [hla]; omega) (by rw [hla]; decide) ?_
              refine zo_rw (y := C (24 * s + kq)) (hcell kq (by omega)) ?_
              refine zo_iast (i := f + 1) (j := kq) o hB dX0_standAt_57 (zh_F hf) (by rw [(zh_Fn hf)]; omega) (by rw [(zh_Fn hf)]; decide) ?_
              refine z_aload_n (j := 0) o dX0_standAt_58 rfl ?_
              refine z_dup o dX0_standAt_59 rfl ?_
              refine zo_get (i := f) o hB dX0_standAt_60 zf_X0_25 hf (by decide) (rfl) ?_
              refine zo_rw (y := nI kq) (by rw [zu_ne (by omega)]; exact g2) ?_
              refine z_iconst (v := 1) o dX0_standAt_63 (by decide) ?_
              refine z_iadd o dX0_standAt_64 ?_
              refine zo_rw (y := nI (kq + 1)) (zn_add (rfl) (rfl)) ?_
              refine zo_put (i := f) o hB dX0_standAt_65 zp_X0_25 hf (by decide) (by decide) (Nat.le_of_ble_eq_true rfl) ?_
              refine z_goto (tgt := 5) o dX0_standAt_68 (by decide) ?_
              refine zo_lv [0, 1, 2] rfl ?_
              exact ih (kq + 1) (by omega) _ hs2 _ (fun j h1 h2 => by rw [zu_ne h1, zu_ne h2]; exact g1 j h1 h2) (by rw [zu_at, upd_self]) (fun k hk => by rw [zu_at, upd_ne hk, zu_ne (by omega)]; exact g3 k hk) (fun p hp => by
                rw [zu_ne (by omega), zu_at]
                by_cases q : p = kq
                · subst q; rw [upd_self, upd_self]
                · rw [upd_ne q, upd_ne (by omega)]; exact g4 p hp)
  refine zo_lv [0, 1, 2] rfl ?_
  exact LOOP (min n 8) 0 (by omega) ρ rfl _ (fun j h1 _ => zu_ne h1) (by rw [zu_at, upd_self]; rfl) (fun k hk => by rw [zu_at, upd_ne hk]) (fun p hp => by rw [zu_ne (by omega)]; exact h4 p hp)

