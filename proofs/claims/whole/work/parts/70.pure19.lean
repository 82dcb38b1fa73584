/-! copies -/
theorem va_cpy0 {f g : Nat → Int32} {n k : Nat} (h : k < n) : va_cpy f g 0 0 n k = f k := by
  unfold va_cpy
  rw [if_pos ⟨Nat.zero_le _, by omega⟩, Nat.sub_zero, Nat.zero_add]
theorem tc_ne {M : zM} {w a n j : Nat} (h1 : j ≠ w) (h2 : j ≠ w + 2) : tc_M M w a n j = M j := by
  unfold tc_M
  rw [va_up_ne _ _ h2, zu_ne h1]
theorem tc_use {M : zM} {w a n : Nat} : tc_M M w a n w 0 = M w 0 := by
  unfold tc_M
  rw [va_up_ne _ _ (by omega), zu_at, upd_ne (by decide)]
theorem tc_lw {M : zM} {w a n u : Nat} {ρ : Nat → Int32} (h0 : M w 0 = nI u) (hL : ρ (282 + 121 * u) = nI n) (hn : sp_len ρ u = n) (hc : ∀ k, k < sp_len ρ u → zTok (sp_A ρ u k) (sp_W ρ u k) (M a k)) : zLw w u (tc_M M w a n) ρ := by
  refine ⟨tc_use.trans h0, ?_, fun k hk => ?_⟩
  · unfold tc_M
    rw [va_up_ne _ _ (by omega), zu_at, upd_self, hL]
  · have e : tc_M M w a n (w + 2) k = M a k := by
      unfold tc_M
      rw [va_up_self, va_cpy0 (by omega)]
    rw [e]
    exact hc k hk
theorem by_fits (x : Int32) : fits .byte (.int x.toInt8.toInt32) = true := by
  have h1 := Int8.le_toInt x.toInt8
  have h2 := Int8.toInt_lt x.toInt8
  have h3 : (-128 : Int32) ≤ x.toInt8.toInt32 := by rw [Int32.le_iff_toInt_le, Int8.toInt_toInt32]; exact h1
  have h4 : x.toInt8.toInt32 ≤ 127 := by
    rw [Int32.le_iff_toInt_le, Int8.toInt_toInt32]
    show x.toInt8.toInt ≤ 127
    omega
  show (decide ((-128 : Int32) ≤ x.toInt8.toInt32) && decide (x.toInt8.toInt32 ≤ 127)) = true
  rw [decide_eq_true h3, decide_eq_true h4]; rfl
theorem by_all : ∀ b : Fin 256, (nI b.1).toInt8.toInt32 &&& 255 = nI b.1 := by decide +kernel
theorem by_and {x : Int32} (h : zle x 255) : x.toInt8.toInt32 &&& 255 = x := by
  obtain ⟨b, hb, rfl⟩ := h
  exact by_all ⟨b, by omega⟩
