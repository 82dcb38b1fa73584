/-! the class: its calls (3) -/
theorem zBits.set {x : Int64} {ρ : Nat → Int32} {a k : Nat} (h : zBits x ρ a) (hk : k < 64) : zBits (x ||| zlshl 1 (nI k)) (upd ρ (a + k) 1) a := by
  intro c hc
  rw [lbit_or, lb_bit hk hc, h c hc]
  by_cases q : c = k
  · subst q; rw [upd_self, decide_eq_true rfl, Bool.or_true]; decide
  · rw [upd_ne (by omega), decide_eq_false q, Bool.or_false]
theorem zBits.clr {x : Int64} {ρ : Nat → Int32} {a k : Nat} (h : zBits x ρ a) (hk : k < 64) : zBits (x &&& (zlshl 1 (nI k) ^^^ (-1))) (upd ρ (a + k) 0) a := by
  intro c hc
  rw [lbit_and, lb_not hc, lb_bit hk hc, h c hc]
  by_cases q : c = k
  · subst q; rw [upd_self, decide_eq_true rfl, Bool.not_true, Bool.and_false]; decide
  · rw [upd_ne (by omega), decide_eq_false q, Bool.not_false, Bool.and_true]
theorem two_one {w : Int32} (h : ¬ zin w 0 1 = 0) (h0 : ¬ w = 0) : w = 1 := by
  obtain ⟨k, hk, rfl⟩ := zin_lit (n := 1) rfl (by decide) h
  rcases (show k = 0 ∨ k = 1 by omega) with rfl | rfl
  · exact absurd rfl h0
  · rfl
theorem two_zero {w : Int32} (h : ¬ zin w 0 1 = 0) (h0 : ¬ w = 1) : w = 0 := by
  obtain ⟨k, hk, rfl⟩ := zin_lit (n := 1) rfl (by decide) h
  rcases (show k = 0 ∨ k = 1 by omega) with rfl | rfl
  · rfl
  · exact absurd rfl h0
theorem one_of {v : Int32} (h : zle v 1) (h0 : ¬ v = 0) : v = 1 := by
  obtain ⟨k, hk, rfl⟩ := h
  rcases (show k = 0 ∨ k = 1 by omega) with rfl | rfl
  · exact absurd rfl h0
  · rfl
theorem zin_sw {w b : Int32} {n : Nat} (hb : b.toInt = n) (hn : n < 2 ^ 31) (h : ∀ k : Nat, k ≤ n → ¬ w = nI k) : zin w 0 b = 0 := by
  cases Classical.em (zin w 0 b = 0) with
  | inl q => exact q
  | inr q =>
    obtain ⟨k, hk, e⟩ := zin_lit (n := n) hb hn q
    exact absurd e (h k hk)
theorem zLw.zero {w u : Nat} {M : zM} {ρ : Nat → Int32} (h : zLw w u M ρ) : zLw w u (zu M w 3 0) (upd ρ (282 + 121 * u) 0) := by
  refine ⟨by rw [zu_at, upd_ne (by decide)]; exact h.1, by rw [zu_at, upd_self, upd_self], fun k hk => ?_⟩
  unfold sp_len at hk
  rw [upd_self] at hk
  exact absurd hk (Nat.not_lt_zero _)
set_option maxHeartbeats 4000000 in
set_option maxRecDepth 100000 in
theorem k_lay {B : zB} (hB : znn B = 95) (M : zM) (N : zN) (A : zM) (w : Int32) (c : Int32) (is : Int32) (hR : zRl M N A) (hok : zOkAll (A 83)) : zCi B (zg B M N) yX7_lay cX7_lay 8 (some .int) 1 [zref B 0, .int w, .int c, .int is] (fun r g' => ∃ (M1 : zM) (N1 : zN), g' = zg B M1 N1 ∧ r = (sq_lay A w c is).1 ∧ zRl M1 N1 (sq_lay A w c is).2 ∧ zHi M M1) := by
  refine zCi_of (by decide +kernel) (Nat.le_of_ble_eq_true rfl) .int rfl (fun _ _ _ => rfl) ?_
  intro X o kret
  show zW X B (zg B M N) 0 [(0, zref B 0), (1, .int w), (2, .int c), (3, .int is)] []
  obtain ⟨hnf, hnf4⟩ := ok_nf2 hok.1
  obtain ⟨hnc, hnc6⟩ := ok_nc2 hok.1
  obtain ⟨hnt, hnt60⟩ := ok_nt2 hok.1
  obtain ⟨hnw, hnw24⟩ := ok_nw2 hok.1
  have hF : ∀ i, i < 4 → zFn (9 + 2 * i) M (A 83) i := fun i hi => hR.1.2.1 i hi
  refine z_iload_n (j := 1) o dX7_lay_0 rfl ?_
  refine z_iflt (tgt := 25) o dX7_lay_1 (by decide) (fun c1 => ?_) (fun c1 => ?_)
  · refine z_aload_n (j := 0) o dX7_lay_25 rfl ?_
    refine z_iconst (v := 1) o dX7_lay_26 (by decide) ?_
    refine z_callVi (As := [.int 1]) (n := 1) (st := []) o dX7_lay_27 (c_X7_error hB M N 1 (by decide) (by decide)) zc_X7_54 (by decide) (i := 0) (by rw [hB]; exact zsh_lt rfl (by decide)) (zg_o rfl (by decide)) rfl rfl rfl (Nat.le_of_ble_eq_true rfl) (fun r2 g3 p4 => ?_)
    obtain ⟨rfl, rfl⟩ := p4
    have hS : sq_lay A w c is = ((zE 1), zEr A 1) := by
      unfold sq_lay;  rw [if_pos (zin_lo c1)] <;> (try rfl)
    exact kret _ _ _ _ dX7_lay_30 ⟨zu M 73 1 (M 73 1 + 1), N, rfl, by rw [hS], by rw [hS]; exact (hR).er (k := 1) (by decide), ((zHi.rf (M := M))).zu (by decide)⟩
  · refine z_iload_n (j := 1) o dX7_lay_4 rfl ?_
    refine z_iconst (v := 1) o dX7_lay_5 (by decide) ?_
    refine z_icmpgt (tgt := 25) o dX7_lay_6 (by decide) (fun c5 => ?_) (fun c5 => ?_)
    · refine z_aload_n (j := 0) o dX7_lay_25 rfl ?_
      refine z_iconst (v := 1) o dX7_lay_26 (by decide) ?_
      refine z_callVi (As := [.int 1]) (n := 1) (st := []) o dX7_lay_27 (c_X7_error hB M N 1 (by decide) (by decide)) zc_X7_54 (by decide) (i := 0) (by rw [hB]; exact zsh_lt rfl (by decide)) (zg_o rfl (by decide)) rfl rfl rfl (Nat.le_of_ble_eq_true rfl) (fun r6 g7 p8 => ?_)
      obtain ⟨rfl, rfl⟩ := p8
      have hS : sq_lay A w c is = ((zE 1), zEr A 1) := by
        unfold sq_lay;  rw [if_pos (zin_hi c5)] <;> (try rfl)
      exact kret _ _ _ _ dX7_lay_30 ⟨zu M 73 1 (M 73 1 + 1), N, rfl, by rw [hS], by rw [hS]; exact (hR).er (k := 1) (by decide), ((zHi.rf (M := M))).zu (by decide)⟩
    · refine z_iload_n (j := 2) o dX7_lay_9 rfl ?_
      refine z_callSi (As := [.int c]) (n := 1) (st := []) o dX7_lay_10 (c_X1_isCell hB M N c) zc_X7_75 (by decide) rfl rfl (Nat.le_of_ble_eq_true rfl) (fun r9 g10 p11 => ?_)
      obtain ⟨rfl, rfl⟩ := p11
      refine zo_rw (y := zin c 0 63) (cg_cell_eq _) ?_
      refine z_ifeq (tgt := 25) o dX7_lay_13 (by decide) (fun c12 => ?_) (fun c12 => ?_)
      · refine z_aload_n (j := 0) o dX7_lay_25 rfl ?_
        refine z_iconst (v := 1) o dX7_lay_26 (by decide) ?_
        refine z_callVi (As := [.int 1]) (n := 1) (st := []) o dX7_lay_27 (c_X7_error hB M N 1 (by decide) (by decide)) zc_X7_54 (by decide) (i := 0) (by rw [hB]; exact zsh_lt rfl (by decide)) (zg_o rfl (by decide)) rfl rfl rfl (Nat.le_of_ble_eq_true rfl) (fun r13 g14 p15 => ?_)
        obtain ⟨rfl, rfl⟩ := p15
        have hS : sq_lay A w c is = ((zE 1), zEr A 1) := by
          unfold sq_lay;  rw [if_neg (zin_in c1 c5), if_pos c12] <;> (try rfl)
        exact kret _ _ _ _ dX7_lay_30 ⟨zu M 73 1 (M 73 1 + 1), N, rfl, by rw [hS], by rw [hS]; exact (hR).er (k := 1) (by decide), ((zHi.rf (M := M))).zu (by decide)⟩
      · obtain ⟨cc, hcc, ecc⟩ := zin_lit (n := 63) rfl (by decide) c12
        subst ecc
        refine z_iload_n (j := 3) o dX7_lay_16 rfl ?_
        refine z_iflt (tgt := 25) o dX7_lay_17 (by decide) (fun c16 => ?_) (fun c16 => ?_)
        · refine z_aload_n (j := 0) o dX7_lay_25 rfl ?_
          refine z_iconst (v := 1) o dX7_lay_26 (by decide) ?_
          refine z_callVi (As := [.int 1]) (n := 1) (st := []) o dX7_lay_27 (c_X7_error hB M N 1 (by decide) (by decide)) zc_X7_54 (by decide) (i := 0) (by rw [hB]; exact zsh_lt rfl (by decide)) (zg_o rfl (by decide)) rfl rfl rfl (Nat.le_of_ble_eq_true rfl) (fun r17 g18 p19 => ?_)
          obtain ⟨rfl, rfl⟩ := p19
          have hS : sq_lay A w (nI cc) is = ((zE 1), zEr A 1) := by
            unfold sq_lay; (try rw [zn_nI (n := cc) (by omega)]); rw [if_neg (zin_in c1 c5), if_neg c12, if_pos (zin_lo c16)] <;> (try rfl)
          exact kret _ _ _ _ dX7_lay_30 ⟨zu M 73 1 (M 73 1 + 1), N, rfl, by rw [hS], by rw [hS]; exact (hR).er (k := 1) (by decide), ((zHi.rf (M := M))).zu (by decide)⟩
        · refine z_iload_n (j := 3) o dX7_lay_20 rfl ?_
          refine z_iconst (v := 1) o dX7_lay_21 (by decide) ?_
          refine z_icmple (tgt := 31) o dX7_lay_22 (by decide) (fun c20 => ?_) (fun c20 => ?_)
          · refine z_iload_n (j := 1) o dX7_lay_31 rfl ?_
            refine z_ifne (tgt := 45) o dX7_lay_32 (by decide) (fun c21 => ?_) (fun c21 => ?_)
            · have hbw : w = 1 := two_one (zin_in c1 c5) c21
              obtain rfl : w = 1 := hbw
              refine z_aload_n (j := 0) o dX7_lay_45 rfl ?_
              refine zo_get (i := 0) o hB dX7_lay_46 zf_X7_10 rfl (by decide) (rfl) ?_
              refine zo_get (i := 1) o hB dX7_lay_49 zf_X7_130 rfl (by decide) (rfl) ?_
              refine z_lstore (i := 4) (lv2 := [(4, .long (N 1 6)), (0, zref B 0), (1, .int 1), (2, .int (nI cc)), (3, .int is)]) o dX7_lay_52 (by decide) rfl ?_
              refine z_iload_n (j := 4) o dX7_lay_54 rfl ?_
              refine z_iconst (v := 1) o dX7_lay_55 (by decide) ?_
              refine z_icmpne (tgt := 69) o dX7_lay_56 (by decide) (fun c22 => ?_) (fun c22 => ?_)
              · have hbis : is = 0 := two_zero (zin_in c16 c20) c22
                obtain rfl : is = 0 := hbis
                refine z_lload (j := 0) o dX7_lay_69 rfl ?_
                refine z_iload_n (j := 3) o dX7_lay_71 rfl ?_
                refine z_callSl (As := [.int (nI cc)]) (n := 1) (st := [.long (N 1 6)]) o dX7_lay_72 (c_X1_bit hB M N (nI cc)) zc_X7_133 (by decide) rfl rfl (Nat.le_of_ble_eq_true rfl) (fun r23 g24 p25 => ?_)
                obtain ⟨rfl, rfl⟩ := p25
                refine z_ldc2 (v := (-1)) o dX7_lay_75 zk_X7_137 ?_
                refine z_lxor o dX7_lay_78 ?_
                refine z_land o dX7_lay_79 ?_
                refine z_lstore (i := 6) (lv2 := [(6, .long ((N 1 6) &&& ((zlshl 1 (nI cc)) ^^^ (-1)))), (4, .long (N 1 6)), (0, zref B 0), (1, .int 1), (2, .int (nI cc)), (3, .int 0)]) o dX7_lay_80 (by decide) rfl ?_
                refine z_iload_n (j := 3) o dX7_lay_82 rfl ?_
                refine z_ifne (tgt := 98) o dX7_lay_83 (by decide) (fun c26 => ?_) (fun c26 => ?_)
                · refine z_aload_n (j := 2) o dX7_lay_98 rfl ?_
                  refine zo_get (i := 0) o hB dX7_lay_99 zf_X7_10 rfl (by decide) (rfl) ?_
                  refine z_lload (j := 0) o dX7_lay_102 rfl ?_
                  refine zo_putl (i := 1) o hB dX7_lay_104 zp_X7_130 rfl (by decide) ?_
                  refine zo_nn (fun N27 hN27 => ?_)
                  have rgN27 : zRg 1 M N27 (upd (A 83) (134 + cc) 0) := by
                    rw [hN27]
                    exact hR.1.bits (k := 6) (a := 134) (Or.inr ⟨rfl, rfl⟩) (hR.1.2.2.2.2.1.clr (by omega)) (fun j hj => upd_ne (hj _ (by omega)))
                  have fnN27 : zFrN 1 N N27 := fun j hj => by rw [hN27, zul_ne (by omega)]
                  refine z_lload (j := 1) o dX7_lay_107 rfl ?_
                  refine z_iload_n (j := 4) o dX7_lay_109 rfl ?_
                  refine z_callSi (As := [.long (N 1 6), .int (nI cc)]) (n := 2) (st := []) o dX7_lay_110 (c_X1_has hB M N27 (N 1 6) (nI cc)) zc_X7_139 (by decide) rfl rfl (Nat.le_of_ble_eq_true rfl) (fun r28 g29 p30 => ?_)
                  obtain ⟨rfl, rfl⟩ := p30
                  refine z_ifeq (tgt := 120) o dX7_lay_113 (by decide) (fun c31 => ?_) (fun c31 => ?_)
                  · have e70 : A 83 (134 + cc) = 0 := (cg_has_bit hR.1.2.2.2.2.1 (by omega)).mp c31
                    refine z_iconst (v := 0) o dX7_lay_120 (by decide) ?_
                    have hS : sq_lay A 1 (nI cc) 0 = (0, va_up A 83 (upd (A 83) (134 + cc) 0)) := by
                      unfold sq_lay; (try rw [zn_nI (n := cc) (by omega)]); rw [if_neg (zin_in c1 c5), if_neg c12, if_neg (zin_in c16 c20), if_neg (show ¬ (1 : Int32) = 0 by decide), e70] <;> (try rfl)
                    exact kret _ _ _ _ dX7_lay_121 ⟨M, N27, rfl, by rw [hS], by rw [hS]; exact hR.now rgN27 (fun j hj => (zFr.rf (r := 1) (M := M)) j (by omega)) (fun j hj => fnN27 j (by omega)), (zHi.rf (M := M)).fr (zFr.rf (r := 1) (M := M)) (by decide)⟩
                  · have e70 : A 83 (134 + cc) = 1 := one_of (hok.1 _ _ (by have := zbd_s (i := 64 + cc) (by omega); rwa [← Nat.add_assoc] at this)) (fun q => c31 ((cg_has_bit hR.1.2.2.2.2.1 (by omega)).mpr q))
                    refine z_iconst (v := 1) o dX7_lay_116 (by decide) ?_
                    refine z_goto (tgt := 121) o dX7_lay_117 (by decide) ?_
                    have hS : sq_lay A 1 (nI cc) 0 = (1, va_up A 83 (upd (A 83) (134 + cc) 0)) := by
                      unfold sq_lay; (try rw [zn_nI (n := cc) (by omega)]); rw [if_neg (zin_in c1 c5), if_neg c12, if_neg (zin_in c16 c20), if_neg (show ¬ (1 : Int32) = 0 by decide), e70] <;> (try rfl)
                    exact kret _ _ _ _ dX7_lay_121 ⟨M, N27, rfl, by rw [hS], by rw [hS]; exact hR.now rgN27 (fun j hj => (zFr.rf (r := 1) (M := M)) j (by omega)) (fun j hj => fnN27 j (by omega)), (zHi.rf (M := M)).fr (zFr.rf (r := 1) (M := M)) (by decide)⟩
                · exact absurd c26 (by decide)
              · obtain rfl : is = 1 := c22
                refine z_lload (j := 0) o dX7_lay_59 rfl ?_
                refine z_iload_n (j := 3) o dX7_lay_61 rfl ?_
                refine z_callSl (As := [.int (nI cc)]) (n := 1) (st := [.long (N 1 6)]) o dX7_lay_62 (c_X1_bit hB M N (nI cc)) zc_X7_133 (by decide) rfl rfl (Nat.le_of_ble_eq_true rfl) (fun r32 g33 p34 => ?_)
                obtain ⟨rfl, rfl⟩ := p34
                refine z_lor o dX7_lay_65 ?_
                refine z_goto (tgt := 80) o dX7_lay_66 (by decide) ?_
                refine z_lstore (i := 6) (lv2 := [(6, .long ((N 1 6) ||| (zlshl 1 (nI cc)))), (4, .long (N 1 6)), (0, zref B 0), (1, .int 1), (2, .int (nI cc)), (3, .int 1)]) o dX7_lay_80 (by decide) rfl ?_
                refine z_iload_n (j := 3) o dX7_lay_82 rfl ?_
                refine z_ifne (tgt := 98) o dX7_lay_83 (by decide) (fun c35 => ?_) (fun c35 => ?_)
                · refine z_aload_n (j := 2) o dX7_lay_98 rfl ?_
                  refine zo_get (i := 0) o hB dX7_lay_99 zf_X7_10 rfl (by decide) (rfl) ?_
                  refine z_lload (j := 0) o dX7_lay_102 rfl ?_
                  refine zo_putl (i := 1) o hB dX7_lay_104 zp_X7_130 rfl (by decide) ?_
                  refine zo_nn (fun N36 hN36 => ?_)
                  have rgN36 : zRg 1 M N36 (upd (A 83) (134 + cc) 1) := by
                    rw [hN36]
                    exact hR.1.bits (k := 6) (a := 134) (Or.inr ⟨rfl, rfl⟩) (hR.1.2.2.2.2.1.set (by omega)) (fun j hj => upd_ne (hj _ (by omega)))
                  have fnN36 : zFrN 1 N N36 := fun j hj => by rw [hN36, zul_ne (by omega)]
                  refine z_lload (j := 1) o dX7_lay_107 rfl ?_
                  refine z_iload_n (j := 4) o dX7_lay_109 rfl ?_
                  refine z_callSi (As := [.long (N 1 6), .int (nI cc)]) (n := 2) (st := []) o dX7_lay_110 (c_X1_has hB M N36 (N 1 6) (nI cc)) zc_X7_139 (by decide) rfl rfl (Nat.le_of_ble_eq_true rfl) (fun r37 g38 p39 => ?_)
                  obtain ⟨rfl, rfl⟩ := p39
                  refine z_ifeq (tgt := 120) o dX7_lay_113 (by decide) (fun c40 => ?_) (fun c40 => ?_)
                  · have e70 : A 83 (134 + cc) = 0 := (cg_has_bit hR.1.2.2.2.2.1 (by omega)).mp c40
                    refine z_iconst (v := 0) o dX7_lay_120 (by decide) ?_
                    have hS : sq_lay A 1 (nI cc) 1 = (0, va_up A 83 (upd (A 83) (134 + cc) 1)) := by
                      unfold sq_lay; (try rw [zn_nI (n := cc) (by omega)]); rw [if_neg (zin_in c1 c5), if_neg c12, if_neg (zin_in c16 c20), if_neg (show ¬ (1 : Int32) = 0 by decide), e70] <;> (try rfl)
                    exact kret _ _ _ _ dX7_lay_121 ⟨M, N36, rfl, by rw [hS], by rw [hS]; exact hR.now rgN36 (fun j hj => (zFr.rf (r := 1) (M := M)) j (by omega)) (fun j hj => fnN36 j (by omega)), (zHi.rf (M := M)).fr (zFr.rf (r := 1) (M := M)) (by decide)⟩
                  · have e70 : A 83 (134 + cc) = 1 := one_of (hok.1 _ _ (by have := zbd_s (i := 64 + cc) (by omega); rwa [← Nat.add_assoc] at this)) (fun q => c40 ((cg_has_bit hR.1.2.2.2.2.1 (by omega)).mpr q))
                    refine z_iconst (v := 1) o dX7_lay_116 (by decide) ?_
                    refine z_goto (tgt := 121) o dX7_lay_117 (by decide) ?_
                    have hS : sq_lay A 1 (nI cc) 1 = (1, va_up A 83 (upd (A 83) (134 + cc) 1)) := by
                      unfold sq_lay; (try rw [zn_nI (n := cc) (by omega)]); rw [if_neg (zin_in c1 c5), if_neg c12, if_neg (zin_in c16 c20), if_neg (show ¬ (1 : Int32) = 0 by decide), e70] <;> (try rfl)
                    exact kret _ _ _ _ dX7_lay_121 ⟨M, N36, rfl, by rw [hS], by rw [hS]; exact hR.now rgN36 (fun j hj => (zFr.rf (r := 1) (M := M)) j (by omega)) (fun j hj => fnN36 j (by omega)), (zHi.rf (M := M)).fr (zFr.rf (r := 1) (M := M)) (by decide)⟩
                · exact absurd c35 (by decide)
            · obtain rfl : w = 0 := c21
              refine z_aload_n (j := 0) o dX7_lay_35 rfl ?_
              refine zo_get (i := 0) o hB dX7_lay_36 zf_X7_10 rfl (by decide) (rfl) ?_
              refine zo_get (i := 1) o hB dX7_lay_39 zf_X7_126 rfl (by decide) (rfl) ?_
              refine z_goto (tgt := 52) o dX7_lay_42 (by decide) ?_
              refine z_lstore (i := 4) (lv2 := [(4, .long (N 1 5)), (0, zref B 0), (1, .int 0), (2, .int (nI cc)), (3, .int is)]) o dX7_lay_52 (by decide) rfl ?_
              refine z_iload_n (j := 4) o dX7_lay_54 rfl ?_
              refine z_iconst (v := 1) o dX7_lay_55 (by decide) ?_
              refine z_icmpne (tgt := 69) o dX7_lay_56 (by decide) (fun c41 => ?_) (fun c41 => ?_)
              · have hbis : is = 0 := two_zero (zin_in c16 c20) c41
                obtain rfl : is = 0 := hbis
                refine z_lload (j := 0) o dX7_lay_69 rfl ?_
                refine z_iload_n (j := 3) o dX7_lay_71 rfl ?_
                refine z_callSl (As := [.int (nI cc)]) (n := 1) (st := [.long (N 1 5)]) o dX7_lay_72 (c_X1_bit hB M N (nI cc)) zc_X7_133 (by decide) rfl rfl (Nat.le_of_ble_eq_true rfl) (fun r42 g43 p44 => ?_)
                obtain ⟨rfl, rfl⟩ := p44
                refine z_ldc2 (v := (-1)) o dX7_lay_75 zk_X7_137 ?_
                refine z_lxor o dX7_lay_78 ?_
                refine z_land o dX7_lay_79 ?_
                refine z_lstore (i := 6) (lv2 := [(6, .long ((N 1 5) &&& ((zlshl 1 (nI cc)) ^^^ (-1)))), (4, .long (N 1 5)), (0, zref B 0), (1, .int 0), (2, .int (nI cc)), (3, .int 0)]) o dX7_lay_80 (by decide) rfl ?_
                refine z_iload_n (j := 3) o dX7_lay_82 rfl ?_
                refine z_ifne (tgt := 98) o dX7_lay_83 (by decide) (fun c45 => ?_) (fun c45 => ?_)
                · exact absurd c45 (by decide)
                · refine z_aload_n (j := 2) o dX7_lay_86 rfl ?_
                  refine zo_get (i := 0) o hB dX7_lay_87 zf_X7_10 rfl (by decide) (rfl) ?_
                  refine z_lload (j := 0) o dX7_lay_90 rfl ?_
                  refine zo_putl (i := 1) o hB dX7_lay_92 zp_X7_126 rfl (by decide) ?_
                  refine zo_nn (fun N46 hN46 => ?_)
                  have rgN46 : zRg 1 M N46 (upd (A 83) (70 + cc) 0) := by
                    rw [hN46]
                    exact hR.1.bits (k := 5) (a := 70) (Or.inl ⟨rfl, rfl⟩) (hR.1.2.2.2.1.clr (by omega)) (fun j hj => upd_ne (hj _ (by omega)))
                  have fnN46 : zFrN 1 N N46 := fun j hj => by rw [hN46, zul_ne (by omega)]
                  refine z_goto (tgt := 107) o dX7_lay_95 (by decide) ?_
                  refine z_lload (j := 1) o dX7_lay_107 rfl ?_
                  refine z_iload_n (j := 4) o dX7_lay_109 rfl ?_
                  refine z_callSi (As := [.long (N 1 5), .int (nI cc)]) (n := 2) (st := []) o dX7_lay_110 (c_X1_has hB M N46 (N 1 5) (nI cc)) zc_X7_139 (by decide) rfl rfl (Nat.le_of_ble_eq_true rfl) (fun r47 g48 p49 => ?_)
                  obtain ⟨rfl, rfl⟩ := p49
                  refine z_ifeq (tgt := 120) o dX7_lay_113 (by decide) (fun c50 => ?_) (fun c50 => ?_)
                  · have e70 : A 83 (70 + cc) = 0 := (cg_has_bit hR.1.2.2.2.1 (by omega)).mp c50
                    refine z_iconst (v := 0) o dX7_lay_120 (by decide) ?_
                    have hS : sq_lay A 0 (nI cc) 0 = (0, va_up A 83 (upd (A 83) (70 + cc) 0)) := by
                      unfold sq_lay; (try rw [zn_nI (n := cc) (by omega)]); rw [if_neg (zin_in c1 c5), if_neg c12, if_neg (zin_in c16 c20), if_pos rfl, e70] <;> (try rfl)
                    exact kret _ _ _ _ dX7_lay_121 ⟨M, N46, rfl, by rw [hS], by rw [hS]; exact hR.now rgN46 (fun j hj => (zFr.rf (r := 1) (M := M)) j (by omega)) (fun j hj => fnN46 j (by omega)), (zHi.rf (M := M)).fr (zFr.rf (r := 1) (M := M)) (by decide)⟩
                  · have e70 : A 83 (70 + cc) = 1 := one_of (hok.1 _ _ (zbd_s (i := cc) (by omega))) (fun q => c50 ((cg_has_bit hR.1.2.2.2.1 (by omega)).mpr q))
                    refine z_iconst (v := 1) o dX7_lay_116 (by decide) ?_
                    refine z_goto (tgt := 121) o dX7_lay_117 (by decide) ?_
                    have hS : sq_lay A 0 (nI cc) 0 = (1, va_up A 83 (upd (A 83) (70 + cc) 0)) := by
                      unfold sq_lay; (try rw [zn_nI (n := cc) (by omega)]); rw [if_neg (zin_in c1 c5), if_neg c12, if_neg (zin_in c16 c20), if_pos rfl, e70] <;> (try rfl)
                    exact kret _ _ _ _ dX7_lay_121 ⟨M, N46, rfl, by rw [hS], by rw [hS]; exact hR.now rgN46 (fun j hj => (zFr.rf (r := 1) (M := M)) j (by omega)) (fun j hj => fnN46 j (by omega)), (zHi.rf (M := M)).fr (zFr.rf (r := 1) (M := M)) (by decide)⟩
              · obtain rfl : is = 1 := c41
                refine z_lload (j := 0) o dX7_lay_59 rfl ?_
                refine z_iload_n (j := 3) o dX7_lay_61 rfl ?_
                refine z_callSl (As := [.int (nI cc)]) (n := 1) (st := [.long (N 1 5)]) o dX7_lay_62 (c_X1_bit hB M N (nI cc)) zc_X7_133 (by decide) rfl rfl (Nat.le_of_ble_eq_true rfl) (fun r51 g52 p53 => ?_)
                obtain ⟨rfl, rfl⟩ := p53
                refine z_lor o dX7_lay_65 ?_
                refine z_goto (tgt := 80) o dX7_lay_66 (by decide) ?_
                refine z_lstore (i := 6) (lv2 := [(6, .long ((N 1 5) ||| (zlshl 1 (nI cc)))), (4, .long (N 1 5)), (0, zref B 0), (1, .int 0), (2, .int (nI cc)), (3, .int 1)]) o dX7_lay_80 (by decide) rfl ?_
                refine z_iload_n (j := 3) o dX7_lay_82 rfl ?_
                refine z_ifne (tgt := 98) o dX7_lay_83 (by decide) (fun c54 => ?_) (fun c54 => ?_)
                · exact absurd c54 (by decide)
                · refine z_aload_n (j := 2) o dX7_lay_86 rfl ?_
                  refine zo_get (i := 0) o hB dX7_lay_87 zf_X7_10 rfl (by decide) (rfl) ?_
                  refine z_lload (j := 0) o dX7_lay_90 rfl ?_
                  refine zo_putl (i := 1) o hB dX7_lay_92 zp_X7_126 rfl (by decide) ?_
                  refine zo_nn (fun N55 hN55 => ?_)
                  have rgN55 : zRg 1 M N55 (upd (A 83) (70 + cc) 1) := by
                    rw [hN55]
                    exact hR.1.bits (k := 5) (a := 70) (Or.inl ⟨rfl, rfl⟩) (hR.1.2.2.2.1.set (by omega)) (fun j hj => upd_ne (hj _ (by omega)))
                  have fnN55 : zFrN 1 N N55 := fun j hj => by rw [hN55, zul_ne (by omega)]
                  refine z_goto (tgt := 107) o dX7_lay_95 (by decide) ?_
                  refine z_lload (j := 1) o dX7_lay_107 rfl ?_
                  refine z_iload_n (j := 4) o dX7_lay_109 rfl ?_
                  refine z_callSi (As := [.long (N 1 5), .int (nI cc)]) (n := 2) (st := []) o dX7_lay_110 (c_X1_has hB M N55 (N 1 5) (nI cc)) zc_X7_139 (by decide) rfl rfl (Nat.le_of_ble_eq_true rfl) (fun r56 g57 p58 => ?_)
                  obtain ⟨rfl, rfl⟩ := p58
                  refine z_ifeq (tgt := 120) o dX7_lay_113 (by decide) (fun c59 => ?_) (fun c59 => ?_)
                  · have e70 : A 83 (70 + cc) = 0 := (cg_has_bit hR.1.2.2.2.1 (by omega)).mp c59
                    refine z_iconst (v := 0) o dX7_lay_120 (by decide) ?_
                    have hS : sq_lay A 0 (nI cc) 1 = (0, va_up A 83 (upd (A 83) (70 + cc) 1)) := by
                      unfold sq_lay; (try rw [zn_nI (n := cc) (by omega)]); rw [if_neg (zin_in c1 c5), if_neg c12, if_neg (zin_in c16 c20), if_pos rfl, e70] <;> (try rfl)
                    exact kret _ _ _ _ dX7_lay_121 ⟨M, N55, rfl, by rw [hS], by rw [hS]; exact hR.now rgN55 (fun j hj => (zFr.rf (r := 1) (M := M)) j (by omega)) (fun j hj => fnN55 j (by omega)), (zHi.rf (M := M)).fr (zFr.rf (r := 1) (M := M)) (by decide)⟩
                  · have e70 : A 83 (70 + cc) = 1 := one_of (hok.1 _ _ (zbd_s (i := cc) (by omega))) (fun q => c59 ((cg_has_bit hR.1.2.2.2.1 (by omega)).mpr q))
                    refine z_iconst (v := 1) o dX7_lay_116 (by decide) ?_
                    refine z_goto (tgt := 121) o dX7_lay_117 (by decide) ?_
                    have hS : sq_lay A 0 (nI cc) 1 = (1, va_up A 83 (upd (A 83) (70 + cc) 1)) := by
                      unfold sq_lay; (try rw [zn_nI (n := cc) (by omega)]); rw [if_neg (zin_in c1 c5), if_neg c12, if_neg (zin_in c16 c20), if_pos rfl, e70] <;> (try rfl)
                    exact kret _ _ _ _ dX7_lay_121 ⟨M, N55, rfl, by rw [hS], by rw [hS]; exact hR.now rgN55 (fun j hj => (zFr.rf (r := 1) (M := M)) j (by omega)) (fun j hj => fnN55 j (by omega)), (zHi.rf (M := M)).fr (zFr.rf (r := 1) (M := M)) (by decide)⟩
          · refine z_aload_n (j := 0) o dX7_lay_25 rfl ?_
            refine z_iconst (v := 1) o dX7_lay_26 (by decide) ?_
            refine z_callVi (As := [.int 1]) (n := 1) (st := []) o dX7_lay_27 (c_X7_error hB M N 1 (by decide) (by decide)) zc_X7_54 (by decide) (i := 0) (by rw [hB]; exact zsh_lt rfl (by decide)) (zg_o rfl (by decide)) rfl rfl rfl (Nat.le_of_ble_eq_true rfl) (fun r60 g61 p62 => ?_)
            obtain ⟨rfl, rfl⟩ := p62
            have hS : sq_lay A w (nI cc) is = ((zE 1), zEr A 1) := by
              unfold sq_lay; (try rw [zn_nI (n := cc) (by omega)]); rw [if_neg (zin_in c1 c5), if_neg c12, if_pos (zin_hi c20)] <;> (try rfl)
            exact kret _ _ _ _ dX7_lay_30 ⟨zu M 73 1 (M 73 1 + 1), N, rfl, by rw [hS], by rw [hS]; exact (hR).er (k := 1) (by decide), ((zHi.rf (M := M))).zu (by decide)⟩

