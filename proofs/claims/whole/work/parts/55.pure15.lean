/-! a Law at a place holds what the row says of a use -/
def cg_join (s x y : Int32) : Int32 := if s = 38 then (if x = 0 then 0 else if y = 0 then 0 else 1) else if s = 42 then x * y else if s = 43 then x + y else if s = 45 then x - y else if s = 47 then (if y = 0 then 0 else x / y)
  else if s = 60 then (if x < y then 1 else 0) else if s = 61 then (if x = y then 1 else 0) else if s = 62 then (if y < x then 1 else 0) else if s = 124 then (if x = 0 then (if y = 0 then 0 else 1) else 1) else (if y = 0 then 0 else zirem x y)
theorem cg_join_eq {s : Int32} (hs : zSig s) (x y : Int32) : cg_join s x y = sp_two s x y := by
  unfold zSig at hs
  rcases hs with rfl | rfl | rfl | rfl | rfl | rfl | rfl | rfl | rfl | rfl <;> simp [cg_join, sp_two]
def zTok (A W code : Int32) : Prop := (A = 1 ∧ zle W 9999 ∧ code = W) ∨ (A = 2 ∧ zle W 2 ∧ code = -1 - W) ∨ (A = 3 ∧ code = -33) ∨ (zSig A ∧ code = -A)
def zLw (w u : Nat) (M : zM) (ρ : Nat → Int32) : Prop := M w 0 = nI u ∧ M w 3 = ρ (282 + 121 * u) ∧ ∀ k, k < sp_len ρ u → zTok (sp_A ρ u k) (sp_W ρ u k) (M (w + 2) k)
theorem sig_ne {A : Int32} (h : zSig A) : ¬ A = 1 ∧ ¬ A = 2 ∧ ¬ A = 3 ∧ ¬ -A = -33 ∧ -A < -3 := by
  unfold zSig at h
  rcases h with rfl | rfl | rfl | rfl | rfl | rfl | rfl | rfl | rfl | rfl <;> decide
theorem num_ne {v : Nat} (h : v ≤ 9999) : ¬ nI v = -33 ∧ ¬ nI v < -3 ∧ ¬ nI v < 0 := by
  have e : (nI v).toInt = v := nI_toInt (by omega)
  have a1 : (-33 : Int32).toInt = -33 := rfl
  have a2 : (-3 : Int32).toInt = -3 := rfl
  refine ⟨fun q => ?_, fun q => ?_, nI_pos (by omega)⟩
  · rw [q, a1] at e; omega
  · rw [Int32.lt_iff_toInt_lt, e, a2] at q; omega
