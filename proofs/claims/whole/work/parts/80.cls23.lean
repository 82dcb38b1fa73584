/-! the class: the reader (5): the fault of a text -/
def fo_M (M : zM) (n u : Nat) : zM := zu (zu (zu (zu (zu M 67 2 1) 67 3 (nI n)) 67 5 (nI (u + 1))) 67 4 0) 67 1 0
theorem fo_ne {M : zM} {n u j : Nat} (h : j ≠ 67) : fo_M M n u j = M j := by
  unfold fo_M; rw [zu_ne h, zu_ne h, zu_ne h, zu_ne h, zu_ne h]
theorem fo_67 {M : zM} {n u k : Nat} : fo_M M n u 67 k = if k = 1 then 0 else if k = 4 then 0 else if k = 5 then nI (u + 1) else if k = 3 then nI n else if k = 2 then 1 else M 67 k := by
  unfold fo_M
  rw [zu_at, zu_at, zu_at, zu_at, zu_at]
  rfl
theorem fo_tx {M : zM} {ρ : Nat → Int32} {u : Nat} (h : ∀ j, j < 60 → M 5 j = (ρ (198 + j)).toInt8.toInt32) : zTx ρ u (fo_M M (sp_nt ρ) u) :=
  ⟨by rw [fo_67]; rfl, by rw [fo_67]; rfl, by rw [fo_67]; rfl, fun j hj => by rw [fo_ne (by decide)]; exact h j hj⟩
theorem fo_ts {M : zM} {ρ : Nat → Int32} {u n : Nat} : zTS ρ (fo_M M n u) (true, 0, []) :=
  ⟨by rw [fo_67]; rfl, Nat.zero_le _, by rw [fo_67]; exact ⟨0, by omega, rfl⟩, fun _ => ⟨by rw [fo_67]; rfl, Nat.le_refl _, fun j hj => absurd hj (Nat.not_lt_zero _)⟩⟩
set_option maxHeartbeats 4000000 in
set_option maxRecDepth 100000 in
theorem c_X5_faultOf {B : zB} (hB : znn B = 95) (M : zM) (N : zN) (u : Nat) (ρ : Nat → Int32) (hu : u < 2) (hok : zOkR ρ) (hx : ∀ j, j < 60 → M 5 j = (ρ (198 + j)).toInt8.toInt32) : zCi B (zg B M N) yX5_faultOf cX5_faultOf 5 (some .int) 51 [zref B 67, zref B 5, .int (nI (sp_nt ρ)), .ref (zsq B (u + 1))] (fun x g' => ∃ M' : zM, g' = zg B M' N ∧ (∀ i, i ≠ 67 → i ≠ 68 → M' i = M i) ∧ x = (if ((sp_rd ρ u).1 && decide (¬ (sp_rd ρ u).2.1 < sp_nt ρ)) = true then -1 else nI (sp_rd ρ u).2.1) ∧ (((sp_rd ρ u).1 && decide (¬ (sp_rd ρ u).2.1 < sp_nt ρ)) = true → M' 67 1 = nI (sp_rd ρ u).2.2.length ∧ (sp_rd ρ u).2.2.length ≤ 60 ∧ ∀ j, j < (sp_rd ρ u).2.2.length → zTok ((sp_rd ρ u).2.2.getD j (0, 0)).1 ((sp_rd ρ u).2.2.getD j (0, 0)).2 (M' 68 j))) := by
  refine zCi_of (by decide +kernel) (Nat.le_of_ble_eq_true rfl) .int rfl (fun _ _ _ => rfl) ?_
  intro X o kret
  show zW X B (zg B M N) 0 [(0, zref B 67), (1, zref B 5), (2, .int (nI (sp_nt ρ))), (3, .ref (zsq B (u + 1)))] []
  obtain ⟨hnt, hnt60⟩ := ok_nt2 hok
  refine z_aload_n (j := 0) o dX5_faultOf_0 rfl ?_
  refine z_aload_n (j := 1) o dX5_faultOf_1 rfl ?_
  refine zo_put67b o hB dX5_faultOf_2 zp_X5_15 ?_
  refine z_aload_n (j := 0) o dX5_faultOf_5 rfl ?_
  refine z_iload_n (j := 2) o dX5_faultOf_6 rfl ?_
  refine z_aload_n (j := 1) o dX5_faultOf_7 rfl ?_
  refine zo_lenb (i := 5) o hB dX5_faultOf_8 rfl ?_
  refine zo_rw (y := nI 60) rfl ?_
  refine z_mmin o dX5_faultOf_9 zm_X5_25 zn_mins zn_mi zn_minc (by decide) (Nat.le_of_ble_eq_true rfl) ?_
  refine zo_rw (y := nI (sp_nt ρ)) (if_neg (nI_nlt (a := 60) hnt60 (by decide))) ?_
  refine zo_put (i := 67) o hB dX5_faultOf_12 zp_X5_31 rfl (by decide) (by decide) (Nat.le_of_ble_eq_true rfl) ?_
  refine z_aload_n (j := 0) o dX5_faultOf_15 rfl ?_
  refine z_aload_n (j := 3) o dX5_faultOf_16 rfl ?_
  refine zo_put67s (k := u + 1) o hB (by omega) dX5_faultOf_17 zp_X5_21 ?_
  refine z_aload_n (j := 0) o dX5_faultOf_20 rfl ?_
  refine z_iconst (v := 0) o dX5_faultOf_21 (by decide) ?_
  refine zo_put (i := 67) o hB dX5_faultOf_22 zp_X5_35 rfl (by decide) (by decide) (Nat.le_of_ble_eq_true rfl) ?_
  refine z_aload_n (j := 0) o dX5_faultOf_25 rfl ?_
  refine z_iconst (v := 0) o dX5_faultOf_26 (by decide) ?_
  refine zo_put (i := 67) o hB dX5_faultOf_27 zp_X5_38 rfl (by decide) (by decide) (Nat.le_of_ble_eq_true rfl) ?_
  rw [show zu (zu (zu (zu (zu M 67 2 1) 67 3 (nI (sp_nt ρ))) 67 5 (nI (u + 1))) 67 4 0) 67 1 0 = fo_M M (sp_nt ρ) u from rfl]
  refine z_aload_n (j := 0) o dX5_faultOf_30 rfl ?_
  refine z_iconst (v := 0) o dX5_faultOf_31 (by decide) ?_
  refine z_iconst (v := 0) o dX5_faultOf_32 (by decide) ?_
  refine z_callVi (As := [.int 0, .int 0]) (n := 2) (st := []) o dX5_faultOf_33 ((c_TLQ hB 1000).2 0 (by decide) (fo_M M (sp_nt ρ) u) N 0 u ρ (true, 0, []) (by decide) hu hok (fo_tx hx) rfl fo_ts (by decide)) zc_X5_41 (by decide) (i := 67) (by rw [hB]; exact zsh_lt rfl (by decide)) (zg_o rfl (by decide)) rfl rfl rfl (Nat.le_of_ble_eq_true rfl) (fun r1 g2 p3 => ?_)
  obtain ⟨M4, rfl, hX, hP, ex⟩ := p3
  have hX0 : ∀ i, i ≠ 67 → i ≠ 68 → M4 i = M i := fun i a b => (hX.1 i a b).trans (fo_ne a)
  have e3 : M4 67 3 = nI (sp_nt ρ) := (hX.2 3 (by decide) (by decide)).trans (by rw [fo_67]; rfl)
  have hrd : zPS ρ u 1000 0 0 (true, 0, []) = sp_rd ρ u := rfl
  rw [hrd] at hP ex
  have hq60 : (sp_rd ρ u).2.1 ≤ sp_nt ρ := hP.2.1
  cases hq : (sp_rd ρ u).1 with
  | false =>
    refine zo_rw (y := 0) (by rw [ex, hq]; rfl) ?_
    refine z_ifeq (tgt := 54) o dX5_faultOf_36 (by decide) (fun c5 => ?_) (fun c5 => ?_)
    · refine z_iconst (v := 0) o dX5_faultOf_54 (by decide) ?_
      refine z_istore (i := 4) (lv2 := [(4, .int 0), (0, zref B 67), (1, zref B 5), (2, .int (nI (sp_nt ρ))), (3, .ref (zsq B (u + 1)))]) o dX5_faultOf_55 (by decide) rfl ?_
      refine z_iload (j := 0) o dX5_faultOf_57 rfl ?_
      refine z_ifeq (tgt := 66) o dX5_faultOf_59 (by decide) (fun c6 => ?_) (fun c6 => ?_)
      · refine z_aload_n (j := 1) o dX5_faultOf_66 rfl ?_
        refine zo_get (i := 67) o hB dX5_faultOf_67 zf_X5_35 rfl (by decide) (rfl) ?_
        refine zo_rw (y := nI ((sp_rd ρ u).2.1)) (hP.1) ?_
        exact kret _ _ _ _ dX5_faultOf_70 ⟨M4, rfl, hX0, by rw [if_neg (by rw [hq]; exact Bool.false_ne_true)], fun hq2 => absurd (hq.symm.trans ((Bool.and_eq_true _ _).mp hq2).1) (by decide)⟩
      · exact absurd c6 (by decide)
    · exact absurd c5 (by decide)
  | true =>
    refine zo_rw (y := 1) (by rw [ex, hq]; rfl) ?_
    refine z_ifeq (tgt := 54) o dX5_faultOf_36 (by decide) (fun c7 => ?_) (fun c7 => ?_)
    · exact absurd c7 (by decide)
    · refine z_aload_n (j := 0) o dX5_faultOf_39 rfl ?_
      refine zo_get (i := 67) o hB dX5_faultOf_40 zf_X5_35 rfl (by decide) (rfl) ?_
      refine zo_rw (y := nI ((sp_rd ρ u).2.1)) (hP.1) ?_
      refine z_aload_n (j := 0) o dX5_faultOf_43 rfl ?_
      refine zo_get (i := 67) o hB dX5_faultOf_44 zf_X5_31 rfl (by decide) (rfl) ?_
      refine zo_rw (y := nI (sp_nt ρ)) (e3) ?_
      refine z_icmpne (tgt := 54) o dX5_faultOf_47 (by decide) (fun c8 => ?_) (fun c8 => ?_)
      · have hlt : (sp_rd ρ u).2.1 < sp_nt ρ := by
          rcases Nat.eq_or_lt_of_le hq60 with q | q
          · exact absurd (congrArg nI q) c8
          · exact q
        refine z_iconst (v := 0) o dX5_faultOf_54 (by decide) ?_
        refine z_istore (i := 4) (lv2 := [(4, .int 0), (0, zref B 67), (1, zref B 5), (2, .int (nI (sp_nt ρ))), (3, .ref (zsq B (u + 1)))]) o dX5_faultOf_55 (by decide) rfl ?_
        refine z_iload (j := 0) o dX5_faultOf_57 rfl ?_
        refine z_ifeq (tgt := 66) o dX5_faultOf_59 (by decide) (fun c9 => ?_) (fun c9 => ?_)
        · refine z_aload_n (j := 1) o dX5_faultOf_66 rfl ?_
          refine zo_get (i := 67) o hB dX5_faultOf_67 zf_X5_35 rfl (by decide) (rfl) ?_
          refine zo_rw (y := nI ((sp_rd ρ u).2.1)) (hP.1) ?_
          exact kret _ _ _ _ dX5_faultOf_70 ⟨M4, rfl, hX0, by rw [if_neg (by rw [decide_eq_false (fun q => q hlt), Bool.and_false]; exact Bool.false_ne_true)], fun hq2 => absurd hlt (of_decide_eq_true ((Bool.and_eq_true _ _).mp hq2).2)⟩
        · exact absurd c9 (by decide)
      · have heq : (sp_rd ρ u).2.1 = sp_nt ρ := (nI_eq (by omega) (by omega)).mp c8
        refine z_iconst (v := 1) o dX5_faultOf_50 (by decide) ?_
        refine z_goto (tgt := 55) o dX5_faultOf_51 (by decide) ?_
        refine z_istore (i := 4) (lv2 := [(4, .int 1), (0, zref B 67), (1, zref B 5), (2, .int (nI (sp_nt ρ))), (3, .ref (zsq B (u + 1)))]) o dX5_faultOf_55 (by decide) rfl ?_
        refine z_iload (j := 0) o dX5_faultOf_57 rfl ?_
        refine z_ifeq (tgt := 66) o dX5_faultOf_59 (by decide) (fun c10 => ?_) (fun c10 => ?_)
        · exact absurd c10 (by decide)
        · refine z_iconst (v := (-1)) o dX5_faultOf_62 (by decide) ?_
          refine z_goto (tgt := 70) o dX5_faultOf_63 (by decide) ?_
          exact kret _ _ _ _ dX5_faultOf_70 ⟨M4, rfl, hX0, by rw [hq, decide_eq_true (show ¬ (sp_rd ρ u).2.1 < sp_nt ρ by omega), if_pos (show (true && true) = true from rfl)], fun _ => ⟨(hP.2.2.2 hq).1, by have := (hP.2.2.2 hq).2.1; omega, (hP.2.2.2 hq).2.2⟩⟩

