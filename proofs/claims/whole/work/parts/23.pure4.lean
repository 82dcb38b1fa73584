/-! a dawn -/
theorem zheld_le {v : Int32} {b : Int32} {n : Nat} (hb : b = nI n) (hn : n < 2 ^ 31) : zle (zheld v 0 b) n := by
  subst hb
  unfold zheld
  by_cases h1 : v < 0
  · rw [if_pos h1]; exact ⟨0, by omega, rfl⟩
  · rw [if_neg h1]
    by_cases h2 : nI n < v
    · rw [if_pos h2]; exact ⟨n, Nat.le_refl n, rfl⟩
    · rw [if_neg h2]
      have a := zi_nlt h1
      have b := zi_nlt h2
      rw [nI_toInt hn] at b
      exact zle_of a b hn
def zSm (M M1 : zM) : Prop := ∀ i, i ≠ 83 → i ≠ 92 → i ≠ 93 → M1 i = M i
theorem zSm.rf {M : zM} : zSm M M := fun _ _ _ _ => rfl
theorem zSm.tr {M M1 M2 : zM} (h : zSm M M1) (h2 : zSm M1 M2) : zSm M M2 := fun i a b c => (h2 i a b c).trans (h i a b c)
theorem zSm.row {M M1 : zM} {f : Nat → Int32} (h : zSm M M1) : zSm M (va_up M1 83 f) := fun i a b c => by rw [va_up_ne _ _ a]; exact h i a b c
theorem zSm.fac {M M1 : zM} {f : Nat → Int32} (h : zSm M M1) : zSm M (va_up M1 92 f) := fun i a b c => by rw [va_up_ne _ _ b]; exact h i a b c
theorem zSm.pil {M M1 : zM} {f : Nat → Int32} (h : zSm M M1) : zSm M (va_up M1 93 f) := fun i a b c => by rw [va_up_ne _ _ c]; exact h i a b c
theorem zSm.zu {M M1 : zM} {k : Nat} {v : Int32} (h : zSm M M1) : zSm M (zu M1 83 k v) := fun i a b c => by rw [zu_ne a]; exact h i a b c
def sp_rich1 (ρ : Nat → Int32) (i : Nat) : Nat → Int32 := upd ρ (6 + 13 * i + 4) (zheld (ρ (6 + 13 * i + 4) + sp_graze ρ i) 0 99999)
def sp_richF (ρ : Nat → Int32) : Nat → (Nat → Int32)
  | 0 => ρ
  | i + 1 => sp_rich1 (sp_richF ρ i) i
def sp_feed1 (ρ : Nat → Int32) (c : Nat) : Nat → Int32 := upd ρ (58 + 2 * c + 1) (zheld (ρ (58 + 2 * c + 1) + sp_gives ρ 1 (ρ (58 + 2 * c)) (sp_brand ρ (zn (ρ (58 + 2 * c)))) (zirem (ρ 0) 7)) 0 999)
def sp_feedF (ρ : Nat → Int32) : Nat → (Nat → Int32)
  | 0 => ρ
  | i + 1 => sp_feed1 (sp_feedF ρ i) i
def sp_goes1 (ρ : Nat → Int32) : Nat → Int32 := sp_richF (sp_moves ρ) (sp_nf ρ)
def sp_goes (ρ : Nat → Int32) : Nat → Int32 := sp_feedF (sp_goes1 ρ) (sp_nc ρ)
def sp_goesN (ρ : Nat → Int32) : Nat → (Nat → Int32)
  | 0 => ρ
  | n + 1 => sp_goes (sp_goesN ρ n)
theorem zCk_ne {ρ ρ' : Nat → Int32} {u : Nat} (h : ∀ k, 282 ≤ k → ρ' k = ρ k) (hc : zCk ρ u) : zCk ρ' u := by
  have e1 : ρ' (282 + 121 * u) = ρ (282 + 121 * u) := h _ (by omega)
  have e2 : sp_len ρ' u = sp_len ρ u := by unfold sp_len; rw [e1]
  have e3 : sp_A ρ' u = sp_A ρ u := funext fun k => h _ (by omega)
  have e4 : sp_W ρ' u = sp_W ρ u := funext fun k => h _ (by omega)
  unfold zCk
  rw [e1, e2, e3, e4]
  exact hc
theorem zOkAll_low {ρ ρ' : Nat → Int32} (h : ∀ k, 282 ≤ k → ρ' k = ρ k) (hr : zOkR ρ') (hc : zOkAll ρ) : zOkAll ρ' := ⟨hr, zCk_ne h hc.2.1, zCk_ne h hc.2.2⟩
theorem zOkAll_upd {ρ : Nat → Int32} (hc : zOkAll ρ) {k : Nat} {v : Int32} (hk : k < 282) (hv : ∀ m, zbd k = some m → zle v m) : zOkAll (upd ρ k v) := zOkAll_low (fun j hj => upd_ne (by omega)) (zOkR_upd hc.1 hv) hc
theorem okA_moves {ρ : Nat → Int32} (h : zOkAll ρ) : zOkAll (sp_moves ρ) := zOkAll_low (fun k hk => sp_moves_ne h.1 (by omega) (fun i p hi hp => by omega)) (ok_moves h.1) h
theorem okA_rich1 {ρ : Nat → Int32} (h : zOkAll ρ) {i : Nat} (hi : i < 4) : zOkAll (sp_rich1 ρ i) := zOkAll_upd h (by omega) (fun m hm => by
  rw [zbd_f hi (by decide)] at hm
  cases hm
  exact zheld_le (n := 99999) rfl (by decide))
theorem okA_richF {ρ : Nat → Int32} (h : zOkAll ρ) : ∀ n, n ≤ 4 → zOkAll (sp_richF ρ n)
  | 0, _ => h
  | n + 1, hn => okA_rich1 (okA_richF h n (by omega)) (by omega)
theorem okA_feed1 {ρ : Nat → Int32} (h : zOkAll ρ) {c : Nat} (hc : c < 6) : zOkAll (sp_feed1 ρ c) := zOkAll_upd h (by omega) (fun m hm => by
  rw [zbd_fat hc] at hm
  cases hm
  exact zheld_le (n := 999) rfl (by decide))
theorem okA_feedF {ρ : Nat → Int32} (h : zOkAll ρ) : ∀ n, n ≤ 6 → zOkAll (sp_feedF ρ n)
  | 0, _ => h
  | n + 1, hn => okA_feed1 (okA_feedF h n (by omega)) (by omega)
theorem sp_richF_ne {ρ : Nat → Int32} {k : Nat} : ∀ n, (∀ i, i < n → k ≠ 6 + 13 * i + 4) → sp_richF ρ n k = ρ k
  | 0, _ => rfl
  | n + 1, h => by
    show upd (sp_richF ρ n) (6 + 13 * n + 4) _ k = ρ k
    rw [upd_ne (h n (by omega)), sp_richF_ne n (fun i hi => h i (by omega))]
theorem sp_feedF_ne {ρ : Nat → Int32} {k : Nat} : ∀ n, (∀ i, i < n → k ≠ 58 + 2 * i + 1) → sp_feedF ρ n k = ρ k
  | 0, _ => rfl
  | n + 1, h => by
    show upd (sp_feedF ρ n) (58 + 2 * n + 1) _ k = ρ k
    rw [upd_ne (h n (by omega)), sp_feedF_ne n (fun i hi => h i (by omega))]
theorem okA_goes1 {ρ : Nat → Int32} (h : zOkAll ρ) : zOkAll (sp_goes1 ρ) := okA_richF (okA_moves h) _ (ok_nf2 h.1).2
theorem okA_goes {ρ : Nat → Int32} (h : zOkAll ρ) : zOkAll (sp_goes ρ) := okA_feedF (okA_goes1 h) _ (ok_nc2 h.1).2
theorem okA_goesN {ρ : Nat → Int32} (h : zOkAll ρ) : ∀ n, zOkAll (sp_goesN ρ n)
  | 0 => h
  | n + 1 => okA_goes (okA_goesN h n)
theorem sp_goes1_ne {ρ : Nat → Int32} (h : zOkAll ρ) {k : Nat} (h0 : k ≠ 0) (h1 : ∀ i p, i < 4 → p < 8 → k ≠ 6 + 13 * i + (5 + p)) (h2 : ∀ i, i < 4 → k ≠ 6 + 13 * i + 4) : sp_goes1 ρ k = ρ k := by
  unfold sp_goes1
  rw [sp_richF_ne _ (fun i hi => h2 i (by have := (ok_nf2 h.1).2; omega)), sp_moves_ne h.1 h0 h1]
theorem sp_goes_ne {ρ : Nat → Int32} (h : zOkAll ρ) {k : Nat} (h0 : k ≠ 0) (h1 : ∀ i p, i < 4 → p < 8 → k ≠ 6 + 13 * i + (5 + p)) (h2 : ∀ i, i < 4 → k ≠ 6 + 13 * i + 4) (h3 : ∀ i, i < 6 → k ≠ 58 + 2 * i + 1) : sp_goes ρ k = ρ k := by
  unfold sp_goes
  rw [sp_feedF_ne _ (fun i hi => h3 i (by have := (ok_nc2 h.1).2; omega)), sp_goes1_ne h h0 h1 h2]
