/-! a Range: salt or water is set anew -/
/-- the salt (k = 5, a = 70) or the water (k = 6, a = 134) of a Range -/
theorem zRg.bits {r k a : Nat} {M : zM} {N : zN} {ρ ρ1 : Nat → Int32} {x : Int64} (h : zRg r M N ρ) (hk : (k = 5 ∧ a = 70) ∨ (k = 6 ∧ a = 134)) (hx : zBits x ρ1 a) (hr : ∀ j, (∀ c, c < 64 → j ≠ a + c) → ρ1 j = ρ j) : zRg r M (zul N r k x) ρ1 := by
  obtain ⟨a0, b, c, d1, d2, e, f, g⟩ := h
  refine ⟨?_, fun i hi => (b i hi).cg rfl rfl (fun j hj => hr _ (fun c _ => by omega)), fun c2 hc2 => ?_, ?_, ?_, fun j hj => ?_, fun j hj => ?_, fun u hu => (g u hu).cg rfl rfl (fun j w => hr j (fun c _ => by omega))⟩
  · rw [hr 0 (fun c _ => by omega), hr 1 (fun c _ => by omega), hr 2 (fun c _ => by omega), hr 3 (fun c _ => by omega), hr 4 (fun c _ => by omega), hr 5 (fun c _ => by omega)]; exact a0
  · rw [hr _ (fun c _ => by omega), hr _ (fun c _ => by omega)]; exact c c2 hc2
  · rw [zul_at]
    rcases hk with ⟨rfl, rfl⟩ | ⟨rfl, rfl⟩
    · rw [vl_self]; exact hx
    · rw [vl_ne (by decide)]; exact d1.cg (fun c2 _ => hr _ (fun c _ => by omega))
  · rw [zul_at]
    rcases hk with ⟨rfl, rfl⟩ | ⟨rfl, rfl⟩
    · rw [vl_ne (by decide)]; exact d2.cg (fun c2 _ => hr _ (fun c _ => by omega))
    · rw [vl_self]; exact hx
  · rw [hr _ (fun c _ => by omega)]; exact e j hj
  · rw [hr _ (fun c _ => by omega)]; exact f j hj
theorem zBits.flip {x : Int64} {ρ : Nat → Int32} {a k : Nat} (h : zBits x ρ a) (hk : k < 64) (h1 : zle (ρ (a + k)) 1) : zBits (x ^^^ zlshl 1 (nI k)) (upd ρ (a + k) (1 - ρ (a + k))) a := by
  intro c hc
  rw [lbit_xor, lb_bit hk hc, h c hc]
  by_cases q : c = k
  · subst q
    rw [upd_self, decide_eq_true rfl]
    obtain ⟨v, hv, e⟩ := h1
    rw [e]
    rcases (show v = 0 ∨ v = 1 by omega) with rfl | rfl <;> decide
  · rw [upd_ne (by omega), decide_eq_false q, Bool.xor_false]
