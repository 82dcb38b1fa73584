/-! the class: a Range (1) -/
set_option maxHeartbeats 4000000 in
set_option maxRecDepth 100000 in
theorem c_X3_standing {B : zB} (hB : znn B = 95) (M : zM) (N : zN) (r : Nat) (ρ : Nat → Int32) (hR : zsh r = 2) (hok : zOkR ρ) (hg : zRg r M N ρ) : zCl B (zg B M N) yX3_standing cX3_standing 4 (some .long) 2 [zref B r] (fun x g' => g' = zg B M N ∧ x = sp_allp ρ (sp_nf ρ)) := by
  refine zCl_of (by decide +kernel) (Nat.le_of_ble_eq_true rfl) ?_
  intro X o kret
  show zW X B (zg B M N) 0 [(0, zref B r)] []
  obtain ⟨hnf, hnf4⟩ := ok_nf2 hok
  obtain ⟨hnc, hnc6⟩ := ok_nc2 hok
  refine z_lconst (v := 0) o dX3_standing_0 (by decide) ?_
  refine z_lstore_n (i := 1) (lv2 := [(1, .long 0), (0, zref B r)]) o dX3_standing_1 rfl (by decide) rfl ?_
  refine z_iconst (v := 0) o dX3_standing_2 (by decide) ?_
  refine z_istore_n (i := 3) (lv2 := [(3, .int 0), (1, .long 0), (0, zref B r)]) o dX3_standing_3 rfl (by decide) rfl ?_
  have LOOP : ∀ nq kq : Nat, kq + nq = sp_nf ρ → zW X B (zg B M N) 4 [(3, .int (nI kq)), (1, .long (sp_allp ρ kq)), (0, zref B r)] [] := by
    intro nq
    induction nq with
    | zero =>
      intro kq hkkq
      have hqkq : sp_nf ρ = kq := by omega
      subst hqkq
      refine z_iload_n (j := 0) o dX3_standing_4 rfl ?_
      refine z_aload_n (j := 2) o dX3_standing_5 rfl ?_
      refine zo_get (i := r) o hB dX3_standing_6 zf_X3_51 hR (by decide) (rfl) ?_
      refine zo_rw (y := nI (sp_nf ρ)) (hg.1.1.trans hnf) ?_
      refine z_icmpge (tgt := 30) o dX3_standing_9 (by decide) (fun c1 => ?_) (fun c1 => ?_)
      · refine z_lload_n (j := 1) o dX3_standing_30 rfl ?_
        exact kret _ _ _ _ dX3_standing_31 ⟨rfl, rfl⟩
      · exact absurd c1 (nI_nlt (a := sp_nf ρ) (b := sp_nf ρ) (by omega) (by omega))
    | succ nq ihkq =>
      intro kq hkkq
      have hlkq : kq < sp_nf ρ := by omega
      refine z_iload_n (j := 0) o dX3_standing_4 rfl ?_
      refine z_aload_n (j := 2) o dX3_standing_5 rfl ?_
      refine zo_get (i := r) o hB dX3_standing_6 zf_X3_51 hR (by decide) (rfl) ?_
      refine zo_rw (y := nI (sp_nf ρ)) (hg.1.1.trans hnf) ?_
      refine z_icmpge (tgt := 30) o dX3_standing_9 (by decide) (fun c2 => ?_) (fun c2 => ?_)
      · exact absurd (nI_lt (a := kq) (b := sp_nf ρ) (by omega) (by omega)) c2
      · refine z_lload_n (j := 1) o dX3_standing_12 rfl ?_
        refine z_aload_n (j := 2) o dX3_standing_13 rfl ?_
        refine zo_get (i := r) o hB dX3_standing_14 zf_X3_11 hR (by decide) (rfl) ?_
        refine z_iload_n (j := 0) o dX3_standing_17 rfl ?_
        refine zo_aldF (i := r + 1) (j := kq) o hB dX3_standing_18 (zh_R hR).1 (by rw [(zh_R hR).2.2.2.2.2.2.2.2.2.1]; omega) (by rw [(zh_R hR).2.2.2.2.2.2.2.2.2.1]; decide) ?_
        refine z_callVl (As := []) (n := 0) (st := [.long (sp_allp ρ kq)]) o dX3_standing_19 (c_X0_standing hB M N (r + 8 + 2 * kq) kq ρ ((zh_R hR).2.2.2.2.2.2.2.1 kq (by omega)) (by omega) hok (hg.2.1 kq (by omega))) zc_X3_155 (by decide) (i := r + 8 + 2 * kq) (by rw [hB]; exact zsh_lt ((zh_R hR).2.2.2.2.2.2.2.1 kq (by omega)) (by decide)) (zg_o ((zh_R hR).2.2.2.2.2.2.2.1 kq (by omega)) (by decide)) rfl rfl rfl (Nat.le_of_ble_eq_true rfl) (fun r3 g4 p5 => ?_)
        obtain ⟨rfl, rfl⟩ := p5
        refine z_lor o dX3_standing_22 ?_
        refine z_lstore_n (i := 1) (lv2 := [(1, .long ((sp_allp ρ kq) ||| (sp_pset ρ kq))), (3, .int (nI kq)), (0, zref B r)]) o dX3_standing_23 rfl (by decide) rfl ?_
        refine z_iinc (j := 1) (v := nI (kq + 1)) (lv2 := [(3, .int (nI (kq + 1))), (1, .long ((sp_allp ρ kq) ||| (sp_pset ρ kq))), (0, zref B r)]) o dX3_standing_24 rfl (zn_ofInt _) (by decide) rfl ?_
        refine z_goto (tgt := 4) o dX3_standing_27 (by decide) ?_
        refine zo_lv [0, 1, 2] rfl ?_
        exact ihkq (kq + 1) (by omega)
  exact LOOP (sp_nf ρ) 0 (by omega)

def zSn (r : Nat) (N : zN) (ρ : Nat → Int32) (k : Nat) : Prop := ∀ i, i < k → N (r + 7) i = sp_ins ρ i
theorem zRg.sn {r : Nat} {M : zM} {N N1 : zN} {ρ : Nat → Int32} (h : zRg r M N ρ) (h1 : N1 r = N r) : zRg r M N1 ρ := by
  obtain ⟨a, b, c, d1, d2, e, f, g⟩ := h
  exact ⟨a, b, c, by rw [h1]; exact d1, by rw [h1]; exact d2, e, f, g⟩
theorem vl_self {f : Nat → Int64} {k : Nat} {v : Int64} : vp_updL f k v k = v := by simp [vp_updL]
theorem vl_ne {f : Nat → Int64} {k j : Nat} {v : Int64} (h : j ≠ k) : vp_updL f k v j = f j := by simp [vp_updL, h]
theorem zul_at {N : zN} {i k : Nat} {v : Int64} : zul N i k v i = vp_updL (N i) k v := va_up_self _ _ _
theorem zul_ne {N : zN} {i k j : Nat} {v : Int64} (h : j ≠ i) : zul N i k v j = N j := va_up_ne _ _ h
set_option maxHeartbeats 4000000 in
set_option maxRecDepth 100000 in
theorem c_X3_lookInside {B : zB} (hB : znn B = 95) (M : zM) (N : zN) (r : Nat) (ρ : Nat → Int32) (hR : zsh r = 2) (hok : zOkR ρ) (hg : zRg r M N ρ) : zCv B (zg B M N) yX3_lookInside cX3_lookInside 2 none 4 [zref B r] (fun g' => ∃ N1 : zN, g' = zg B M N1 ∧ (∀ j, j ≠ r + 7 → N1 j = N j) ∧ zSn r N1 ρ (sp_nf ρ)) := by
  refine zCv_of (by decide +kernel) (Nat.le_of_ble_eq_true rfl) ?_
  intro X o kret
  show zW X B (zg B M N) 0 [(0, zref B r)] []
  obtain ⟨hnf, hnf4⟩ := ok_nf2 hok
  obtain ⟨hnc, hnc6⟩ := ok_nc2 hok
  refine z_iconst (v := 0) o dX3_lookInside_0 (by decide) ?_
  refine z_istore_n (i := 1) (lv2 := [(1, .int 0), (0, zref B r)]) o dX3_lookInside_1 rfl (by decide) rfl ?_
  have LOOP : ∀ nq kq : Nat, kq + nq = sp_nf ρ → ∀ N1 : zN, (∀ j, j ≠ r + 7 → N1 j = N j) → zSn r N1 ρ kq → zW X B (zg B M N1) 2 [(1, .int (nI kq)), (0, zref B r)] [] := by
    intro nq
    induction nq with
    | zero =>
      intro kq hkq N1 h1 h2
      have hz : kq = sp_nf ρ := by omega
      refine z_iload_n (j := 0) o dX3_lookInside_2 rfl ?_
      refine z_aload_n (j := 1) o dX3_lookInside_3 rfl ?_
      refine zo_get (i := r) o hB dX3_lookInside_4 zf_X3_51 hR (by decide) (rfl) ?_
      refine zo_rw (y := nI (sp_nf ρ)) (hg.1.1.trans hnf) ?_
      refine z_icmpge (tgt := 31) o dX3_lookInside_7 (by decide) (fun c1 => ?_) (fun c1 => ?_)
      · exact kret _ _ _ dX3_lookInside_31 ⟨N1, rfl, h1, by rw [← hz]; exact h2⟩
      · exact absurd c1 (nI_nlt (a := kq) (b := sp_nf ρ) (by omega) (by omega))
    | succ nq ih =>
      intro kq hkq N1 h1 h2
      have hlt : kq < sp_nf ρ := by omega
      refine z_iload_n (j := 0) o dX3_lookInside_2 rfl ?_
      refine z_aload_n (j := 1) o dX3_lookInside_3 rfl ?_
      refine zo_get (i := r) o hB dX3_lookInside_4 zf_X3_51 hR (by decide) (rfl) ?_
      refine zo_rw (y := nI (sp_nf ρ)) (hg.1.1.trans hnf) ?_
      refine z_icmpge (tgt := 31) o dX3_lookInside_7 (by decide) (fun c2 => ?_) (fun c2 => ?_)
      · exact absurd (nI_lt (a := kq) (b := sp_nf ρ) (by omega) (by omega)) c2
      · refine z_aload_n (j := 1) o dX3_lookInside_10 rfl ?_
        refine zo_get (i := r) o hB dX3_lookInside_11 zf_X3_39 hR (by decide) (rfl) ?_
        refine z_iload_n (j := 0) o dX3_lookInside_14 rfl ?_
        refine z_aload_n (j := 1) o dX3_lookInside_15 rfl ?_
        refine zo_get (i := r) o hB dX3_lookInside_16 zf_X3_11 hR (by decide) (rfl) ?_
        refine z_iload_n (j := 0) o dX3_lookInside_19 rfl ?_
        refine zo_aldF (i := r + 1) (j := kq) o hB dX3_lookInside_20 (zh_R hR).1 (by rw [(zh_R hR).2.2.2.2.2.2.2.2.2.1]; omega) (by rw [(zh_R hR).2.2.2.2.2.2.2.2.2.1]; decide) ?_
        refine z_callVl (As := []) (n := 0) (st := [.int (nI kq), zref B (r + 7)]) o dX3_lookInside_21 (c_X0_inside hB M N1 (r + 8 + 2 * kq) kq ρ ((zh_R hR).2.2.2.2.2.2.2.1 kq (by omega)) (by omega) hok (hg.2.1 kq (by omega))) zc_X3_159 (by decide) (i := r + 8 + 2 * kq) (by rw [hB]; exact zsh_lt ((zh_R hR).2.2.2.2.2.2.2.1 kq (by omega)) (by decide)) (zg_o ((zh_R hR).2.2.2.2.2.2.2.1 kq (by omega)) (by decide)) rfl rfl rfl (Nat.le_of_ble_eq_true rfl) (fun r3 g4 p5 => ?_)
        obtain ⟨rfl, rfl⟩ := p5
        refine zo_last (i := r + 7) (j := kq) o hB dX3_lookInside_24 (zh_R hR).2.2.2.2.2.2.1 (by rw [(zh_R hR).2.2.2.2.2.2.2.2.2.2.2.2.2.2.2]; omega) (by rw [(zh_R hR).2.2.2.2.2.2.2.2.2.2.2.2.2.2.2]; decide) ?_
        refine zo_nn (fun N6 hN6 => ?_)
        refine z_iinc (j := 0) (v := nI (kq + 1)) (lv2 := [(1, .int (nI (kq + 1))), (0, zref B r)]) o dX3_lookInside_25 rfl (zn_ofInt _) (by decide) rfl ?_
        refine z_goto (tgt := 2) o dX3_lookInside_28 (by decide) ?_
        refine zo_lv [0, 1] rfl ?_
        exact ih (kq + 1) (by omega) N6 (fun j hj => by rw [hN6, zul_ne hj]; exact h1 j hj) (fun i hi => by
          rw [hN6, zul_at]
          by_cases q : i = kq
          · subst q; rw [vl_self]
          · rw [vl_ne q]; exact h2 i (by omega))
  refine zo_lv [0, 1] rfl ?_
  exact LOOP (sp_nf ρ) 0 (by omega) N (fun _ _ => rfl) (fun i hi => absurd hi (Nat.not_lt_zero _))

theorem has01 {x : Int64} {c : Nat} (hc : c < 64) : ¬ cg_has x (nI c) = 0 ↔ sp_has x c := by
  unfold cg_has sp_has
  rw [lb_has hc]
  by_cases h : zlushr x (nI c) &&& 1 = 0
  · rw [if_pos h, (lb_has0 hc).mp h]; exact ⟨fun q => absurd rfl q, fun q => absurd q Bool.false_ne_true⟩
  · rw [if_neg h]
    refine ⟨fun _ => ?_, fun _ => by decide⟩
    cases q : lbit x c with
    | true => rfl
    | false => exact absurd ((lb_has0 hc).mpr q) h
set_option maxHeartbeats 4000000 in
set_option maxRecDepth 100000 in
theorem c_X3_brandSeen {B : zB} (hB : znn B = 95) (M : zM) (N : zN) (r : Nat) (ρ : Nat → Int32) (c : Nat) (hR : zsh r = 2) (hok : zOkR ρ) (hg : zRg r M N ρ) (hc : c < 64) (hsn : zSn r N ρ (sp_nf ρ)) : zCi B (zg B M N) yX3_brandSeen cX3_brandSeen 3 (some .int) 1 [zref B r, .int (nI c)] (fun x g' => g' = zg B M N ∧ x = sp_brand ρ c) := by
  refine zCi_of (by decide +kernel) (Nat.le_of_ble_eq_true rfl) .int rfl (fun _ _ _ => rfl) ?_
  intro X o kret
  show zW X B (zg B M N) 0 [(0, zref B r), (1, .int (nI c))] []
  obtain ⟨hnf, hnf4⟩ := ok_nf2 hok
  obtain ⟨hnc, hnc6⟩ := ok_nc2 hok
  refine z_iconst (v := 0) o dX3_brandSeen_0 (by decide) ?_
  refine z_istore_n (i := 2) (lv2 := [(2, .int 0), (0, zref B r), (1, .int (nI c))]) o dX3_brandSeen_1 rfl (by decide) rfl ?_
  have LOOP : ∀ nq kq : Nat, kq + nq = sp_nf ρ → sp_brand ρ c = sp_br ρ c nq kq → zW X B (zg B M N) 2 [(2, .int (nI kq)), (0, zref B r), (1, .int (nI c))] [] := by
    intro nq
    induction nq with
    | zero =>
      intro kq hkq hs
      have hz : kq = sp_nf ρ := by omega
      refine z_iload_n (j := 0) o dX3_brandSeen_2 rfl ?_
      refine z_aload_n (j := 1) o dX3_brandSeen_3 rfl ?_
      refine zo_get (i := r) o hB dX3_brandSeen_4 zf_X3_51 hR (by decide) (rfl) ?_
      refine zo_rw (y := nI (sp_nf ρ)) (hg.1.1.trans hnf) ?_
      refine z_icmpge (tgt := 31) o dX3_brandSeen_7 (by decide) (fun c1 => ?_) (fun c1 => ?_)
      · refine z_iconst (v := (-1)) o dX3_brandSeen_31 (by decide) ?_
        exact kret _ _ _ _ dX3_brandSeen_32 ⟨rfl, by rw [hs]; rfl⟩
      · exact absurd c1 (nI_nlt (a := kq) (b := sp_nf ρ) (by omega) (by omega))
    | succ nq ih =>
      intro kq hkq hs
      have hlt : kq < sp_nf ρ := by omega
      refine z_iload_n (j := 0) o dX3_brandSeen_2 rfl ?_
      refine z_aload_n (j := 1) o dX3_brandSeen_3 rfl ?_
      refine zo_get (i := r) o hB dX3_brandSeen_4 zf_X3_51 hR (by decide) (rfl) ?_
      refine zo_rw (y := nI (sp_nf ρ)) (hg.1.1.trans hnf) ?_
      refine z_icmpge (tgt := 31) o dX3_brandSeen_7 (by decide) (fun c2 => ?_) (fun c2 => ?_)
      · exact absurd (nI_lt (a := kq) (b := sp_nf ρ) (by omega) (by omega)) c2
      · refine z_aload_n (j := 1) o dX3_brandSeen_10 rfl ?_
        refine zo_get (i := r) o hB dX3_brandSeen_11 zf_X3_39 hR (by decide) (rfl) ?_
        refine z_iload_n (j := 0) o dX3_brandSeen_14 rfl ?_
        refine zo_lald (i := r + 7) (j := kq) o hB dX3_brandSeen_15 (zh_R hR).2.2.2.2.2.2.1 (by rw [(zh_R hR).2.2.2.2.2.2.2.2.2.2.2.2.2.2.2]; omega) (by rw [(zh_R hR).2.2.2.2.2.2.2.2.2.2.2.2.2.2.2]; decide) ?_
        refine zo_rwl (y := sp_ins ρ kq) (hsn kq hlt) ?_
        refine z_iload_n (j := 2) o dX3_brandSeen_16 rfl ?_
        refine z_callSi (As := [.long (sp_ins ρ kq), .int (nI c)]) (n := 2) (st := []) o dX3_brandSeen_17 (c_X1_has hB M N (sp_ins ρ kq) (nI c)) zc_X3_162 (by decide) rfl rfl (Nat.le_of_ble_eq_true rfl) (fun r3 g4 p5 => ?_)
        obtain ⟨rfl, rfl⟩ := p5
        refine z_ifeq (tgt := 25) o dX3_brandSeen_20 (by decide) (fun c6 => ?_) (fun c6 => ?_)
        · have hs2 := hs.trans (sp_br_n (fun q => by
            have w9 := (has01 hc).mpr q
            exact w9 c6))
          refine z_iinc (j := 0) (v := nI (kq + 1)) (lv2 := [(2, .int (nI (kq + 1))), (0, zref B r), (1, .int (nI c))]) o dX3_brandSeen_25 rfl (zn_ofInt _) (by decide) rfl ?_
          refine z_goto (tgt := 2) o dX3_brandSeen_28 (by decide) ?_
          refine zo_lv [0, 1, 2] rfl ?_
          exact ih (kq + 1) (by omega) hs2
        · have hs2 := hs.trans (sp_br_y ((has01 hc).mp c6))
          refine z_iload_n (j := 0) o dX3_brandSeen_23 rfl ?_
          exact kret _ _ _ _ dX3_brandSeen_24 ⟨rfl, hs2.symm⟩
  exact LOOP (sp_nf ρ) 0 (by omega) rfl

