/-! the class: the posts of a Fence move -/
theorem cg_north : ∀ k, k ≤ 6 → cg_kind (nI k) 1 = if (nI k = 1 ∨ nI k = 4) then 1 else 0 := by decide
theorem bar_of {x y : Int64} {ρ : Nat → Int32} {kd : Int32} (hx : zBits x ρ 70) (hy : zBits y ρ 134) (hk : kd = 1 ∨ kd = 4) : ∀ c, c < 64 → (cg_has (x ||| y) (nI c) = 0 ↔ (ρ (70 + c) = 0 ∧ ((kd = 1 ∨ kd = 4) → ρ (134 + c) = 0))) := fun c hc => by
  rw [zBits.or hx hy hc]
  exact ⟨fun w => ⟨w.1, fun _ => w.2⟩, fun w => ⟨w.1, w.2 hk⟩⟩
theorem bar_no {x : Int64} {ρ : Nat → Int32} {kd : Int32} (hx : zBits x ρ 70) (hk : ¬ (kd = 1 ∨ kd = 4)) : ∀ c, c < 64 → (cg_has x (nI c) = 0 ↔ (ρ (70 + c) = 0 ∧ ((kd = 1 ∨ kd = 4) → ρ (134 + c) = 0))) := fun c hc => by
  rw [cg_has_bit hx hc]
  exact ⟨fun w => ⟨w, fun q => absurd q hk⟩, fun w => w.1⟩
theorem mv_no {ρ : Nat → Int32} {i p t : Nat} (ht : t < 64) (et : sp_to ρ i p = nI t) (hn : ¬ (ρ (70 + t) = 0 ∧ ((ρ (6 + 13 * i + 0) = 1 ∨ ρ (6 + 13 * i + 0) = 4) → ρ (134 + t) = 0))) : sp_mv ρ i p = ρ := by
  unfold sp_mv
  rw [et, if_neg (nI_pos (by omega)), zn_nI (by omega)]
  by_cases h1 : ρ (70 + t) = 0
  · rw [if_pos h1]
    by_cases h2 : ρ (6 + 13 * i + 0) = 1 ∨ ρ (6 + 13 * i + 0) = 4
    · rw [if_pos h2]
      by_cases h3 : ρ (134 + t) = 0
      · exact absurd ⟨h1, fun _ => h3⟩ hn
      · rw [if_neg h3]
    · exact absurd ⟨h1, fun q => absurd q h2⟩ hn
  · rw [if_neg h1]
theorem mv_yes {ρ : Nat → Int32} {i p t : Nat} (ht : t < 64) (et : sp_to ρ i p = nI t) (hn : ρ (70 + t) = 0 ∧ ((ρ (6 + 13 * i + 0) = 1 ∨ ρ (6 + 13 * i + 0) = 4) → ρ (134 + t) = 0)) : sp_mv ρ i p = upd ρ (6 + 13 * i + (5 + p)) (nI t) := by
  unfold sp_mv
  rw [et, if_neg (nI_pos (by omega)), zn_nI (by omega), if_pos hn.1]
  by_cases h2 : ρ (6 + 13 * i + 0) = 1 ∨ ρ (6 + 13 * i + 0) = 4
  · rw [if_pos h2, if_pos (hn.2 h2)]
  · rw [if_neg h2]
set_option maxHeartbeats 4000000 in
set_option maxRecDepth 100000 in
theorem c_X0_postsMove {B : zB} (hB : znn B = 95) (M : zM) (N : zN) (f i : Nat) (ρ : Nat → Int32) (x y : Int64) (hf : zsh f = 0) (hi4 : i < 4) (hok : zOkR ρ) (hF : zFn f M ρ i) (hx : zBits x ρ 70) (hy : zBits y ρ 134) : zCv B (zg B M N) yX0_postsMove cX0_postsMove 10 none 2 [zref B f, .long x, .long y, .int (ρ 0)] (fun g' => ∃ M' : zM, g' = zg B M' N ∧ (∀ j, j ≠ f + 1 → M' j = M j) ∧ ∀ p, p < 8 → M' (f + 1) p = sp_mvs ρ i (sp_np ρ i) (6 + 13 * i + (5 + p))) := by
  refine zCv_of (by decide +kernel) (Nat.le_of_ble_eq_true rfl) ?_
  intro X o kret
  show zW X B (zg B M N) 0 [(0, zref B f), (1, .long x), (3, .long y), (5, .int (ρ 0))] []
  obtain ⟨hnp, hnp8⟩ := ok_np2 hok hi4
  obtain ⟨kk, hkk, ekk⟩ := ok_f hok hi4 (j := 0) (by decide)
  have hkk6 : kk ≤ 6 := hkk
  have J : ∀ bar : Int64, (∀ c, c < 64 → (cg_has bar (nI c) = 0 ↔ (ρ (70 + c) = 0 ∧ (((ρ (6 + 13 * i + 0)) = 1 ∨ (ρ (6 + 13 * i + 0)) = 4) → ρ (134 + c) = 0)))) → zW X B (zg B M N) 18 [(0, zref B f), (1, .long x), (3, .long y), (5, .int (ρ 0))] [.long bar] := by
    intro bar hbar
    refine z_lstore (i := 6) (lv2 := [(6, .long bar), (0, zref B f), (1, .long x), (3, .long y), (5, .int (ρ 0))]) o dX0_postsMove_18 (by decide) rfl ?_
    refine z_iconst (v := 0) o dX0_postsMove_20 (by decide) ?_
    refine z_istore (i := 8) (lv2 := [(8, .int 0), (6, .long bar), (0, zref B f), (1, .long x), (3, .long y), (5, .int (ρ 0))]) o dX0_postsMove_21 (by decide) rfl ?_
    have LOOP : ∀ nq kq : Nat, kq + nq = sp_np ρ i → ∀ M1 : zM, (∀ j, j ≠ f + 1 → M1 j = M j) → (∀ p, p < 8 → M1 (f + 1) p = sp_mvs ρ i kq (6 + 13 * i + (5 + p))) → zW X B (zg B M1 N) 23 [(8, .int (nI kq)), (6, .long bar), (0, zref B f), (1, .long x), (3, .long y), (5, .int (ρ 0))] [] := by
      intro nq
      induction nq with
      | zero =>
        intro kq hkq M1 h1 h2
        have hz : kq = sp_np ρ i := by omega
        refine z_iload (j := 0) o dX0_postsMove_23 rfl ?_
        refine z_aload_n (j := 2) o dX0_postsMove_25 rfl ?_
        refine zo_get (i := f) o hB dX0_postsMove_26 zf_X0_25 hf (by decide) (rfl) ?_
        refine zo_rw (y := nI (sp_np ρ i)) (by rw [h1 f (by omega)]; exact hF.1.trans hnp) ?_
        refine z_icmpge (tgt := 82) o dX0_postsMove_29 (by decide) (fun c1 => ?_) (fun c1 => ?_)
        · exact kret _ _ _ dX0_postsMove_82 ⟨M1, rfl, h1, by rw [← hz]; exact h2⟩
        · exact absurd c1 (nI_nlt (a := kq) (b := sp_np ρ i) (by omega) (by omega))
      | succ nq ih =>
        intro kq hkq M1 h1 h2
        have hlt : kq < sp_np ρ i := by omega
        have hokk : zOkR (sp_mvs ρ i kq) := ok_mvs hok hi4 kq (by omega)
        have hee : ∀ k, k < 5 → (sp_mvs ρ i kq) (6 + 13 * i + k) = ρ (6 + 13 * i + k) := fun k hk => sp_mvs_ne _ _ (fun p _ => by omega)
        have e0 : (sp_mvs ρ i kq) 0 = ρ 0 := sp_mvs_ne _ _ (fun p _ => by omega)
        have hFk : zFn f M1 (sp_mvs ρ i kq) i := ⟨by rw [h1 f (by omega), hee 3 (by decide)]; exact hF.1, by rw [h1 f (by omega), hee 0 (by decide)]; exact hF.2.1, by rw [h1 f (by omega), hee 1 (by decide)]; exact hF.2.2.1, by rw [h1 f (by omega), hee 2 (by decide)]; exact hF.2.2.2.1, by rw [h1 f (by omega), hee 4 (by decide)]; exact hF.2.2.2.2.1, h2⟩
        obtain ⟨cq, hcq, ecq⟩ := ok_post hokk hi4 (p := kq) (by omega)
        have hse : sp_mvs ρ i (kq + 1) = sp_mv (sp_mvs ρ i kq) i kq := rfl
        have hbar2 : ∀ c, c < 64 → (cg_has bar (nI c) = 0 ↔ ((sp_mvs ρ i kq) (70 + c) = 0 ∧ (((sp_mvs ρ i kq) (6 + 13 * i + 0) = 1 ∨ (sp_mvs ρ i kq) (6 + 13 * i + 0) = 4) → (sp_mvs ρ i kq) (134 + c) = 0))) := fun c hc => by
          rw [sp_mvs_ne (k := 70 + c) _ _ (fun p _ => by omega), sp_mvs_ne (k := 134 + c) _ _ (fun p _ => by omega), hee 0 (by decide)]; exact hbar c hc
        refine z_iload (j := 0) o dX0_postsMove_23 rfl ?_
        refine z_aload_n (j := 2) o dX0_postsMove_25 rfl ?_
        refine zo_get (i := f) o hB dX0_postsMove_26 zf_X0_25 hf (by decide) (rfl) ?_
        refine zo_rw (y := nI (sp_np ρ i)) (by rw [h1 f (by omega)]; exact hF.1.trans hnp) ?_
        refine z_icmpge (tgt := 82) o dX0_postsMove_29 (by decide) (fun c2 => ?_) (fun c2 => ?_)
        · exact absurd (nI_lt (a := kq) (b := sp_np ρ i) (by omega) (by omega)) c2
        · refine z_aload_n (j := 2) o dX0_postsMove_32 rfl ?_
          refine zo_get (i := f) o hB dX0_postsMove_33 zf_X0_11 hf (by decide) (rfl) ?_
          refine z_iload (j := 0) o dX0_postsMove_36 rfl ?_
          refine zo_iald (i := f + 1) (j := kq) o hB dX0_postsMove_38 (zh_F hf) (by rw [(zh_Fn hf)]; omega) (by rw [(zh_Fn hf)]; decide) ?_
          refine zo_rw (y := nI cq) ((h2 kq (by omega)).trans ecq) ?_
          refine z_aload_n (j := 2) o dX0_postsMove_39 rfl ?_
          refine z_iload (j := 0) o dX0_postsMove_40 rfl ?_
          refine z_iload (j := 5) o dX0_postsMove_42 rfl ?_
          refine z_callVi (As := [.int (nI kq), .int (ρ 0)]) (n := 2) (st := [.int (nI cq)]) o dX0_postsMove_44 (c_X0_headsAt hB M1 N f i (sp_mvs ρ i kq) (nI kq) (ρ 0) hf (by omega) hokk hFk) zc_X0_51 (by decide) (i := f) (by rw [hB]; exact zsh_lt hf (by decide)) (zg_o hf (by decide)) rfl rfl rfl (Nat.le_of_ble_eq_true rfl) (fun r3 g4 p5 => ?_)
          obtain ⟨rfl, rfl⟩ := p5
          refine zo_rw (y := sp_heads (sp_mvs ρ i kq) i kq) (by rw [← e0, cg_hd_eq]) ?_
          refine z_callSi (As := [.int (nI cq), .int (sp_heads (sp_mvs ρ i kq) i kq)]) (n := 2) (st := []) o dX0_postsMove_47 (c_X1_next hB M1 N (nI cq) (sp_heads (sp_mvs ρ i kq) i kq)) zc_X0_55 (by decide) rfl rfl (Nat.le_of_ble_eq_true rfl) (fun r6 g7 p8 => ?_)
          obtain ⟨rfl, rfl⟩ := p8
          refine zo_rw (y := sp_next (nI cq) (sp_heads (sp_mvs ρ i kq) i kq)) (cg_next_eq (by omega) _) ?_
          refine zo_rw (y := sp_to (sp_mvs ρ i kq) i kq) (by unfold sp_to; rw [ecq]) ?_
          refine z_istore (i := 9) (lv2 := [(9, .int (sp_to (sp_mvs ρ i kq) i kq)), (8, .int (nI kq)), (6, .long bar), (0, zref B f), (1, .long x), (3, .long y), (5, .int (ρ 0))]) o dX0_postsMove_50 (by decide) rfl ?_
          refine z_iload (j := 0) o dX0_postsMove_52 rfl ?_
          refine z_iflt (tgt := 76) o dX0_postsMove_54 (by decide) (fun c9 => ?_) (fun c9 => ?_)
          · refine z_iinc (j := 1) (v := nI (kq + 1)) (lv2 := [(8, .int (nI (kq + 1))), (9, .int (sp_to (sp_mvs ρ i kq) i kq)), (6, .long bar), (0, zref B f), (1, .long x), (3, .long y), (5, .int (ρ 0))]) o dX0_postsMove_76 rfl (zn_ofInt _) (by decide) rfl ?_
            refine z_goto (tgt := 23) o dX0_postsMove_79 (by decide) ?_
            refine zo_lv [0, 2, 3, 4, 5, 6] rfl ?_
            exact ih (kq + 1) (by omega) M1 h1 (by rw [hse, (show sp_mv (sp_mvs ρ i kq) i kq = (sp_mvs ρ i kq) by unfold sp_mv; rw [if_pos c9])]; exact h2)
          · obtain ⟨t, ht, et⟩ := sp_to_in hokk hi4 (by omega) c9
            rw [et]
            refine z_lload (j := 2) o dX0_postsMove_57 rfl ?_
            refine z_iload (j := 0) o dX0_postsMove_59 rfl ?_
            refine z_callSi (As := [.long bar, .int (nI t)]) (n := 2) (st := []) o dX0_postsMove_61 (c_X1_has hB M1 N bar (nI t)) zc_X0_58 (by decide) rfl rfl (Nat.le_of_ble_eq_true rfl) (fun r10 g11 p12 => ?_)
            obtain ⟨rfl, rfl⟩ := p12
            refine z_ifne (tgt := 76) o dX0_postsMove_64 (by decide) (fun c13 => ?_) (fun c13 => ?_)
            · refine z_iinc (j := 1) (v := nI (kq + 1)) (lv2 := [(8, .int (nI (kq + 1))), (9, .int (nI t)), (6, .long bar), (0, zref B f), (1, .long x), (3, .long y), (5, .int (ρ 0))]) o dX0_postsMove_76 rfl (zn_ofInt _) (by decide) rfl ?_
              refine z_goto (tgt := 23) o dX0_postsMove_79 (by decide) ?_
              refine zo_lv [0, 2, 3, 4, 5, 6] rfl ?_
              exact ih (kq + 1) (by omega) M1 h1 (by rw [hse, mv_no ht et (fun q => c13 ((hbar2 t ht).mpr q))]; exact h2)
            · refine z_aload_n (j := 3) o dX0_postsMove_67 rfl ?_
              refine zo_get (i := f) o hB dX0_postsMove_68 zf_X0_11 hf (by decide) (rfl) ?_
              refine z_iload (j := 1) o dX0_postsMove_71 rfl ?_
              refine z_iload (j := 0) o dX0_postsMove_73 rfl ?_
              refine zo_iast (i := f + 1) (j := kq) o hB dX0_postsMove_75 (zh_F hf) (by rw [(zh_Fn hf)]; omega) (by rw [(zh_Fn hf)]; decide) ?_
              refine zo_nm (fun M14 hM14 => ?_)
              refine z_iinc (j := 1) (v := nI (kq + 1)) (lv2 := [(8, .int (nI (kq + 1))), (9, .int (nI t)), (6, .long bar), (0, zref B f), (1, .long x), (3, .long y), (5, .int (ρ 0))]) o dX0_postsMove_76 rfl (zn_ofInt _) (by decide) rfl ?_
              refine z_goto (tgt := 23) o dX0_postsMove_79 (by decide) ?_
              refine zo_lv [0, 2, 3, 4, 5, 6] rfl ?_
              exact ih (kq + 1) (by omega) M14 (fun j hj => by rw [hM14, zu_ne hj]; exact h1 j hj) (fun p hp => by
                rw [hse, mv_yes ht et ((hbar2 t ht).mp c13), hM14, zu_at]
                by_cases q : p = kq
                · subst q; rw [upd_self, upd_self]
                · rw [upd_ne q, upd_ne (by omega)]; exact h2 p hp)
    refine zo_lv [0, 1, 2, 3, 4, 5] rfl ?_
    exact LOOP (sp_np ρ i) 0 (by omega) M (fun _ _ => rfl) hF.2.2.2.2.2
  refine z_aload_n (j := 0) o dX0_postsMove_0 rfl ?_
  refine zo_get (i := f) o hB dX0_postsMove_1 zf_X0_15 hf (by decide) (rfl) ?_
  refine zo_rw (y := nI kk) (hF.2.1.trans ekk) ?_
  refine z_iconst (v := 1) o dX0_postsMove_4 (by decide) ?_
  refine z_callNi (As := [.int (nI kk), .int 1]) (n := 2) (st := []) o dX0_postsMove_5 (c_X7_isOfKind hB M N kk 1 (by omega)) zc_X0_47 (by decide) rfl rfl (Nat.le_of_ble_eq_true rfl) (fun r15 g16 p17 => ?_)
  obtain ⟨rfl, rfl⟩ := p17
  refine z_ifeq (tgt := 17) o dX0_postsMove_8 (by decide) (fun c18 => ?_) (fun c18 => ?_)
  · have hno : ¬ ((ρ (6 + 13 * i + 0)) = 1 ∨ (ρ (6 + 13 * i + 0)) = 4) := fun q => by rw [ekk] at q; rw [cg_north kk hkk6, if_pos q] at c18; exact absurd c18 (by decide)
    refine z_lload_n (j := 1) o dX0_postsMove_17 rfl ?_
    exact J _ (bar_no hx hno)
  · have hno : (ρ (6 + 13 * i + 0)) = 1 ∨ (ρ (6 + 13 * i + 0)) = 4 := Classical.byContradiction fun q => by rw [ekk] at q; rw [cg_north kk hkk6, if_neg q] at c18; exact c18 rfl
    refine z_lload_n (j := 1) o dX0_postsMove_11 rfl ?_
    refine z_lload_n (j := 2) o dX0_postsMove_12 rfl ?_
    refine z_lor o dX0_postsMove_13 ?_
    refine z_goto (tgt := 18) o dX0_postsMove_14 (by decide) ?_
    exact J _ (bar_of hx hy hno)

