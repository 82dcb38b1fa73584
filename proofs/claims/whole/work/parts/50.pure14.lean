/-! a Fence at a place holds what the row says of a fence -/
def zFn (f : Nat) (M : zM) (ρ : Nat → Int32) (i : Nat) : Prop := M f 1 = ρ (6 + 13 * i + 3) ∧ M f 2 = ρ (6 + 13 * i + 0) ∧ M f 3 = ρ (6 + 13 * i + 1) ∧ M f 4 = ρ (6 + 13 * i + 2) ∧ M f 5 = ρ (6 + 13 * i + 4) ∧ ∀ p, p < 8 → M (f + 1) p = ρ (6 + 13 * i + (5 + p))
/-- bits of a long are the row's numbers from a place on -/
def zBits (x : Int64) (ρ : Nat → Int32) (a : Nat) : Prop := ∀ c, c < 64 → lbit x c = decide (¬ ρ (a + c) = 0)
def cg_kind (kd a : Int32) : Int32 := if kd = a then 1 else if 0 = a then 1 else if kd = 4 then (if 1 = a then 1 else 0) else if kd = 5 then (if 2 = a then 1 else 0) else 0
def cg_hd (kd m hd p x : Int32) : Int32 :=
  if kd = 2 then (if zirem x 2 = 1 then -1 else hd)
  else if kd = 3 then zirem (hd + x / (m + 1)) 4
  else if kd = 4 then (if zirem x 4 < 2 then hd else zirem (hd + 2) 4)
  else if kd = 5 then (if p = 0 then -1 else if zirem x 2 = 1 then -1 else hd)
  else if kd = 6 then (if m = 9 then hd else -1) else hd
theorem lt_two {y : Int32} {α : Type} {a b : α} : (if y < 2 then a else b) = (if 1 < y then b else a) := by
  by_cases h : y < 2
  · rw [if_pos h, if_neg (fun q => by rw [Int32.lt_iff_toInt_lt] at h q; have a1 : (1 : Int32).toInt = 1 := rfl; have a2 : (2 : Int32).toInt = 2 := rfl; omega)]
  · rw [if_neg h, if_pos (by rw [Int32.lt_iff_toInt_lt] at h ⊢; have a1 : (1 : Int32).toInt = 1 := rfl; have a2 : (2 : Int32).toInt = 2 := rfl; omega)]
theorem cg_hd_eq (ρ : Nat → Int32) (i p : Nat) : cg_hd (ρ (6 + 13 * i + 0)) (ρ (6 + 13 * i + 1)) (ρ (6 + 13 * i + 2)) (nI p) (ρ 0) = sp_heads ρ i p := by
  unfold cg_hd sp_heads
  rw [lt_two]
theorem cg_has_bit {x : Int64} {ρ : Nat → Int32} {a c : Nat} (hb : zBits x ρ a) (hc : c < 64) : cg_has x (nI c) = 0 ↔ ρ (a + c) = 0 := by
  unfold cg_has
  have e := hb c hc
  by_cases h : zlushr x (nI c) &&& 1 = 0
  · rw [if_pos h]
    rw [(lb_has0 hc).mp h] at e
    exact ⟨fun _ => Classical.byContradiction (of_decide_eq_false e.symm), fun _ => rfl⟩
  · rw [if_neg h]
    have h2 : lbit x c = true := by
      cases q : lbit x c with
      | true => rfl
      | false => exact absurd ((lb_has0 hc).mpr q) h
    rw [h2] at e
    exact ⟨fun w => absurd w (by decide), fun w => absurd w (of_decide_eq_true e.symm)⟩
theorem zBits.or {x y : Int64} {ρ : Nat → Int32} {a b c : Nat} (hx : zBits x ρ a) (hy : zBits y ρ b) (hc : c < 64) : cg_has (x ||| y) (nI c) = 0 ↔ ρ (a + c) = 0 ∧ ρ (b + c) = 0 := by
  have e : ∀ z : Int64, cg_has z (nI c) = 0 ↔ lbit z c = false := fun z => by
    unfold cg_has
    by_cases h : zlushr z (nI c) &&& 1 = 0
    · rw [if_pos h]; exact ⟨fun _ => (lb_has0 hc).mp h, fun _ => rfl⟩
    · rw [if_neg h]; exact ⟨fun w => absurd w (by decide), fun w => absurd ((lb_has0 hc).mpr w) h⟩
  rw [← cg_has_bit hx hc, ← cg_has_bit hy hc, e, e, e, lbit_or, Bool.or_eq_false_iff]
theorem sp_mvs_heads {ρ : Nat → Int32} {i n p : Nat} (hn : n ≤ 8) : sp_heads (sp_mvs ρ i n) i p = sp_heads ρ i p := by
  have e : ∀ j, j < 5 → sp_mvs ρ i n (6 + 13 * i + j) = ρ (6 + 13 * i + j) := fun j hj => sp_mvs_ne _ _ (fun p _ => by omega)
  unfold sp_heads
  rw [e 0 (by decide), e 1 (by decide), e 2 (by decide), sp_mvs_ne _ _ (fun p _ => by omega)]
