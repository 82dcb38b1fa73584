/-! draws; thoughts -/
def sp_z1 (z : Int32) : Int32 := z * 1103515245 + 12345
def sp_dr (ρ : Nat → Int32) : Int32 := ziushr (sp_z1 (ρ 1)) 8
def sp_draw (ρ : Nat → Int32) : Nat → Int32 := upd ρ 1 (sp_z1 (ρ 1))
theorem ushr8 (x : Int32) : ∃ d, d < 2 ^ 24 ∧ ziushr x 8 = nI d := by
  refine ⟨x.toBitVec.toNat / 2 ^ 8, ?_, ?_⟩
  · have := x.toBitVec.isLt
    omega
  · apply Int32.toBitVec_inj.mp
    apply BitVec.eq_of_toNat_eq
    have h1 := x.toBitVec.isLt
    rw [show (ziushr x 8).toBitVec.toNat = x.toBitVec.toNat / 2 ^ 8 from pk_ushr x 8 8 (by decide), pk_tn (by omega)]
def sp_drn (ρ : Nat → Int32) : Nat := zn (sp_dr ρ)
theorem sp_dr_nat (ρ : Nat → Int32) : sp_dr ρ = nI (sp_drn ρ) ∧ sp_drn ρ < 2 ^ 24 := by
  obtain ⟨d, h1, h2⟩ := ushr8 (sp_z1 (ρ 1))
  unfold sp_drn
  have h3 : sp_dr ρ = nI d := h2
  rw [h3, zn_nI (by omega)]
  exact ⟨rfl, h1⟩
theorem zrem_nat {x : Int32} {a d : Nat} (hx : x = nI a) (ha : a < 2 ^ 31) (hd : d < 2 ^ 31) (h0 : 0 < d) : x - x / nI d * nI d = nI (a % d) := by
  rw [hx]; exact pk_rem ha h0 hd
def sp_stray1 (ρ : Nat → Int32) : Nat → Int32 := upd (sp_draw ρ) (70 + sp_drn ρ % 64) (1 - sp_draw ρ (70 + sp_drn ρ % 64))
def sp_cw (ρ : Nat → Int32) : Nat := sp_drn ρ % sp_nc ρ
def sp_stray2 (ρ : Nat → Int32) : Nat → Int32 :=
  upd (sp_draw (sp_draw ρ)) (58 + 2 * sp_cw ρ) (if sp_next (ρ (58 + 2 * sp_cw ρ)) (zirem (sp_dr (sp_draw ρ)) 4) < 0 then sp_draw (sp_draw ρ) (58 + 2 * sp_cw ρ) else sp_next (ρ (58 + 2 * sp_cw ρ)) (zirem (sp_dr (sp_draw ρ)) 4))
def sp_stray (ρ : Nat → Int32) : Nat → Int32 := if 0 < sp_nc ρ then sp_stray2 (sp_stray1 ρ) else sp_stray1 ρ
def sp_drawn (ρ : Nat → Int32) : Nat → Int32 := sp_goes (sp_stray ρ)
theorem okA_draw {ρ : Nat → Int32} (h : zOkAll ρ) : zOkAll (sp_draw ρ) := zOkAll_upd h (by decide) (fun m hm => by cases hm)
theorem zle_not {v : Int32} (h : zle v 1) : zle (1 - v) 1 := by
  obtain ⟨k, hk, rfl⟩ := h
  rcases (show k = 0 ∨ k = 1 by omega) with rfl | rfl
  · exact ⟨1, by omega, by decide⟩
  · exact ⟨0, by omega, by decide⟩
theorem okA_stray1 {ρ : Nat → Int32} (h : zOkAll ρ) : zOkAll (sp_stray1 ρ) := by
  have hm : sp_drn ρ % 64 < 64 := Nat.mod_lt _ (by decide)
  refine zOkAll_upd (okA_draw h) (by omega) (fun m hq => ?_)
  rw [zbd_s (by omega)] at hq
  cases hq
  exact zle_not ((okA_draw h).1 _ _ (zbd_s (by omega)))
theorem sp_stray1_ne {ρ : Nat → Int32} {k : Nat} (h1 : k ≠ 1) (h2 : k < 70 ∨ 134 ≤ k) : sp_stray1 ρ k = ρ k := by
  have hm : sp_drn ρ % 64 < 64 := Nat.mod_lt _ (by decide)
  unfold sp_stray1
  rw [upd_ne (by omega)]
  exact upd_ne h1
theorem sp_stray1_nc {ρ : Nat → Int32} : sp_nc (sp_stray1 ρ) = sp_nc ρ := by
  unfold sp_nc; rw [sp_stray1_ne (by decide) (by omega)]
theorem okA_stray2 {ρ : Nat → Int32} (h : zOkAll ρ) (hc : 0 < sp_nc ρ) : zOkAll (sp_stray2 ρ) := by
  have h6 := (ok_nc2 h.1).2
  have hm : sp_cw ρ < sp_nc ρ := Nat.mod_lt _ hc
  have hd := okA_draw (okA_draw h)
  refine zOkAll_upd hd (by omega) (fun m hq => ?_)
  have hq0 := hq
  rw [zbd_c (by omega)] at hq
  cases hq
  by_cases h1 : sp_next (ρ (58 + 2 * sp_cw ρ)) (zirem (sp_dr (sp_draw ρ)) 4) < 0
  · rw [if_pos h1]; exact hd.1 _ _ hq0
  · rw [if_neg h1]
    obtain ⟨c, hc2, ec⟩ := h.1 _ _ (zbd_c (i := sp_cw ρ) (by omega))
    rw [ec] at h1 ⊢
    obtain ⟨t, ht, et⟩ := sp_next_in c (by omega) _ h1
    exact ⟨t, by omega, et⟩
theorem okA_stray {ρ : Nat → Int32} (h : zOkAll ρ) : zOkAll (sp_stray ρ) := by
  unfold sp_stray
  by_cases hc : 0 < sp_nc ρ
  · rw [if_pos hc]; exact okA_stray2 (okA_stray1 h) (by rw [sp_stray1_nc]; exact hc)
  · rw [if_neg hc]; exact okA_stray1 h
theorem okA_drawn {ρ : Nat → Int32} (h : zOkAll ρ) : zOkAll (sp_drawn ρ) := okA_goes (okA_stray h)
def sp_drawnN (ρ : Nat → Int32) : Nat → (Nat → Int32)
  | 0 => ρ
  | n + 1 => sp_drawn (sp_drawnN ρ n)
theorem okA_drawnN {ρ : Nat → Int32} (h : zOkAll ρ) : ∀ n, zOkAll (sp_drawnN ρ n)
  | 0 => h
  | n + 1 => okA_drawn (okA_drawnN h n)
def sp_movesN (ρ : Nat → Int32) : Nat → (Nat → Int32)
  | 0 => ρ
  | n + 1 => sp_moves (sp_movesN ρ n)
theorem ok_movesN {ρ : Nat → Int32} (h : zOkR ρ) : ∀ n, zOkR (sp_movesN ρ n)
  | 0 => h
  | n + 1 => ok_moves (ok_movesN h n)
theorem okA_movesN {ρ : Nat → Int32} (h : zOkAll ρ) : ∀ n, zOkAll (sp_movesN ρ n)
  | 0 => h
  | n + 1 => okA_moves (okA_movesN h n)
theorem sp_movesN_ne {ρ : Nat → Int32} (h : zOkR ρ) {k : Nat} (h0 : k ≠ 0) (h1 : ∀ i p, i < 4 → p < 8 → k ≠ 6 + 13 * i + (5 + p)) : ∀ n, sp_movesN ρ n k = ρ k
  | 0 => rfl
  | n + 1 => by
    show sp_moves (sp_movesN ρ n) k = ρ k
    rw [sp_moves_ne (ok_movesN h n) h0 h1, sp_movesN_ne h h0 h1 n]
/-- one or two cells more are salted (an int below 0: none) -/
def sp_salt1 (ρ : Nat → Int32) (a : Int32) : Nat → Int32 := if a < 0 then ρ else upd ρ (70 + zn a) 1
def sp_salt (ρ : Nat → Int32) (a b : Int32) : Nat → Int32 := sp_salt1 (sp_salt1 ρ a) b
def zCell (a : Int32) : Prop := a < 0 ∨ ∃ k, k < 64 ∧ a = nI k
theorem ok_salt1 {ρ : Nat → Int32} (h : zOkR ρ) {a : Int32} (ha : zCell a) : zOkR (sp_salt1 ρ a) := by
  unfold sp_salt1
  by_cases h1 : a < 0
  · rw [if_pos h1]; exact h
  · rw [if_neg h1]
    rcases ha with h2 | ⟨k, hk, rfl⟩
    · exact absurd h2 h1
    · rw [zn_nI (by omega)]
      refine zOkR_upd h (fun m hm => ?_)
      rw [zbd_s (by omega)] at hm
      cases hm
      exact ⟨1, by omega, rfl⟩
def sp_hadB (ρ : Nat → Int32) (f c n : Nat) (a b : Int32) : Bool := sp_hasB (sp_ins (sp_movesN (sp_salt ρ a b) n) f) c
theorem sp_hasB_t {x : Int64} {c : Nat} (h : zlushr x (nI c) &&& 1 = 1) : sp_hasB x c = true := decide_eq_true (p := zlushr x (nI c) &&& 1 = 1) h
theorem sp_hasB_f {x : Int64} {c : Nat} (h : ¬ zlushr x (nI c) &&& 1 = 1) : sp_hasB x c = false := decide_eq_false (p := zlushr x (nI c) &&& 1 = 1) h
theorem sp_hasB_of {x : Int64} {c : Nat} (h : sp_hasB x c = true) : zlushr x (nI c) &&& 1 = 1 := of_decide_eq_true (p := zlushr x (nI c) &&& 1 = 1) h
