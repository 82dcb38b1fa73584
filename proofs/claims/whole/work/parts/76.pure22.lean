/-! the reader of the class: what its methods promise -/
abbrev zPS (ρ : Nat → Int32) (u F m op : Nat) (r : zPR) : zPR := sp_ps (sp_lk ρ) (sp_nm u) F m op r
def zTL (B : zB) (F L : Nat) : Prop := ∀ (M : zM) (N : zN) (op u : Nat) (ρ : Nat → Int32) (r : zPR), op ≤ 5 → u < 2 → zOkR ρ → zTx ρ u M → r.1 = true → zTS ρ M r → zPm L r.2.1 ≤ F →
  zCi B (zg B M N) yX5_readLevel cX5_readLevel 6 (some .boolean) (8 * (5 - op) + 10 - L) [zref B 67, .int (nI L), .int (nI op)] (fun x g' => ∃ M' : zM, g' = zg B M' N ∧ zTCx M M' ∧ zTS ρ M' (zPS ρ u F L op r) ∧ x = zb (zPS ρ u F L op r).1)
def zTQ (B : zB) (F : Nat) : Prop := ∀ (M : zM) (N : zN) (op u : Nat) (ρ : Nat → Int32) (r : zPR), op ≤ 5 → u < 2 → zOkR ρ → zTx ρ u M → r.1 = true → zTS ρ M r → zPm 5 r.2.1 ≤ F →
  zCi B (zg B M N) yX5_readQ cX5_readQ 4 (some .boolean) (8 * (5 - op) + 4) [zref B 67, .int (nI op)] (fun x g' => ∃ M' : zM, g' = zg B M' N ∧ zTCx M M' ∧ zTS ρ M' (zPS ρ u F 5 op r) ∧ x = zb (zPS ρ u F 5 op r).1)
theorem opd_st {ρ : Nat → Int32} {M M3 : zM} {u F m op : Nat} {r : zPR} {b v c : Int32} (hs : zTS ρ M r) (hr : r.1 = true) (hlk : sp_lk ρ r.2.1 ≠ -1) (h60 : sp_nt ρ ≤ 60) (hc : zTok b v c)
    (h3 : zTS ρ M3 (zPS ρ u F m op (true, r.2.1 + 1, r.2.2))) : zTS ρ (sp_add M3 c) ((zPS ρ u F m op (true, r.2.1 + 1, r.2.2)).1, (zPS ρ u F m op (true, r.2.1 + 1, r.2.2)).2.1, (zPS ρ u F m op (true, r.2.1 + 1, r.2.2)).2.2 ++ [(b, v)]) ∧ r.2.1 + 1 ≤ (zPS ρ u F m op (true, r.2.1 + 1, r.2.2)).2.1 := by
  have hlt := sp_lk_lt hlk
  have hi := sp_ps_inv (nm := sp_nm u) (fun h q => sp_lk_T h q) (sp_nm_m1 u) F m op (true, r.2.1 + 1, r.2.2) hlt
  unfold zPS at h3 ⊢
  generalize sp_ps (sp_lk ρ) (sp_nm u) F m op (true, r.2.1 + 1, r.2.2) = q9 at h3 hi ⊢
  have l0 := (hs.2.2.2 hr).2.1
  refine ⟨h3.add h60 (fun q => ?_) hc, hi.1⟩
  have c : q9.2.2.length + (r.2.1 + 1) ≤ r.2.2.length + q9.2.1 := (hi.2.2 q).2
  omega
def sp_opd (lk : Nat → Int32) (nm : Int32 → Int32) (F op : Nat) (v : Int32) (r : zPR) : zPR :=
  if v = 33 then sp_ap 3 (sp_ps lk nm F 5 (op + 1) (true, r.2.1 + 1, r.2.2)) else sp_cl lk (sp_ps lk nm F 0 (op + 1) (true, r.2.1 + 1, r.2.2))
theorem num_v {x v : Int32} (h : ¬ x = -1) : v * 10 + (sp_sg x - 48) = 10 * v + x - 48 := by
  rw [show sp_sg x = x from if_neg h, Int32.mul_comm v 10, Int32.sub_eq_add_neg, Int32.sub_eq_add_neg, Int32.add_assoc]
theorem num_9 {ρ : Nat → Int32} {h : Nat} : zle (sp_num (sp_lk ρ) 4 h 0).2 9999 := by
  obtain ⟨x, hx, hl⟩ := sp_num_nat (lk := sp_lk ρ) (fun h q => zin_dg2 q) 4 h 0
  exact ⟨x, by omega, hx⟩
theorem num_gt {ρ : Nat → Int32} {h : Nat} (hd : ¬ zin (sp_lk ρ h) 48 57 = 0) : h + 1 ≤ (sp_num (sp_lk ρ) 4 h 0).1 := by
  rw [sp_num, if_neg hd]
  exact sp_num_ge 3 (h + 1) _
theorem no_yes {ρ : Nat → Int32} {r : zPR} (hd : ¬ zin (sp_lk ρ r.2.1) 48 57 = 0) : sp_no (sp_lk ρ) r = (true, (sp_num (sp_lk ρ) 4 r.2.1 0).1, r.2.2 ++ [(1, (sp_num (sp_lk ρ) 4 r.2.1 0).2)]) := by
  have := num_gt hd
  unfold sp_no
  rw [if_neg (by omega)]
theorem no_not {ρ : Nat → Int32} {r : zPR} (hd : zin (sp_lk ρ r.2.1) 48 57 = 0) : sp_no (sp_lk ρ) r = (false, r.2.1, r.2.2) := by
  have e : sp_num (sp_lk ρ) 4 r.2.1 0 = (r.2.1, 0) := by rw [sp_num, if_pos hd]
  unfold sp_no
  rw [e, if_pos rfl]
