/-! a Range at a place holds what the row says -/
def zRg (r : Nat) (M : zM) (N : zN) (ρ : Nat → Int32) : Prop :=
  (M r 1 = ρ 2 ∧ M r 4 = ρ 3 ∧ M r 7 = ρ 0 ∧ M r 8 = ρ 1 ∧ M r 10 = ρ 4 ∧ M r 13 = ρ 5) ∧ (∀ i, i < 4 → zFn (r + 8 + 2 * i) M ρ i) ∧ (∀ c, c < 6 → M (r + 2) c = ρ (58 + 2 * c) ∧ M (r + 3) c = ρ (58 + 2 * c + 1)) ∧ zBits (N r 5) ρ 70 ∧ zBits (N r 6) ρ 134 ∧ (∀ j, j < 60 → M (r + 4) j = (ρ (198 + j)).toInt8.toInt32) ∧ (∀ j, j < 24 → M (r + 6) j = ρ (258 + j)) ∧ ∀ u, u < 2 → zLw (r + 16 + 3 * u) u M ρ
/-- what stands outside a Range stays -/
def zFr (r : Nat) (M M1 : zM) : Prop := ∀ j, j < r ∨ r + 22 ≤ j → M1 j = M j
def zFrN (r : Nat) (N N1 : zN) : Prop := ∀ j, j < r ∨ r + 22 ≤ j → N1 j = N j
theorem zFr.rf {r : Nat} {M : zM} : zFr r M M := fun _ _ => rfl
theorem zFr.tr {r : Nat} {M M1 M2 : zM} (h : zFr r M M1) (h2 : zFr r M1 M2) : zFr r M M2 := fun j hj => (h2 j hj).trans (h j hj)
theorem zFr.zu {r : Nat} {M M1 : zM} {i k : Nat} {v : Int32} (h : zFr r M M1) (hi : r ≤ i ∧ i < r + 22) : zFr r M (zu M1 i k v) := fun j hj => by rw [zu_ne (by omega)]; exact h j hj
theorem zFr.va {r : Nat} {M M1 : zM} {i : Nat} {f : Nat → Int32} (h : zFr r M M1) (hi : r ≤ i ∧ i < r + 22) : zFr r M (va_up M1 i f) := fun j hj => by rw [va_up_ne _ _ (by omega)]; exact h j hj
theorem zFn.cg {f i : Nat} {M M1 : zM} {ρ ρ1 : Nat → Int32} (h : zFn f M ρ i) (h1 : M1 f = M f) (h2 : M1 (f + 1) = M (f + 1)) (hr : ∀ j, j < 13 → ρ1 (6 + 13 * i + j) = ρ (6 + 13 * i + j)) : zFn f M1 ρ1 i := by
  unfold zFn
  rw [h1, h2, hr 0 (by decide), hr 1 (by decide), hr 2 (by decide), hr 3 (by decide), hr 4 (by decide)]
  exact ⟨h.1, h.2.1, h.2.2.1, h.2.2.2.1, h.2.2.2.2.1, fun p hp => by rw [hr (5 + p) (by omega)]; exact h.2.2.2.2.2 p hp⟩
theorem zLw.cg {w u : Nat} {M M1 : zM} {ρ ρ1 : Nat → Int32} (h : zLw w u M ρ) (h1 : M1 w = M w) (h2 : M1 (w + 2) = M (w + 2)) (hr : ∀ k, 282 ≤ k → ρ1 k = ρ k) : zLw w u M1 ρ1 := by
  unfold zLw sp_len sp_A sp_W
  rw [h1, h2, hr _ (by omega)]
  exact ⟨h.1, h.2.1, fun k hk => by rw [hr _ (by omega), hr _ (by omega)]; exact h.2.2 k hk⟩
theorem zBits.cg {x : Int64} {ρ ρ1 : Nat → Int32} {a : Nat} (h : zBits x ρ a) (hr : ∀ c, c < 64 → ρ1 (a + c) = ρ (a + c)) : zBits x ρ1 a := fun c hc => by rw [hr c hc]; exact h c hc
/-- the posts of one fence have moved -/
theorem zRg.posts {r i : Nat} {M M1 : zM} {N : zN} {ρ ρ1 : Nat → Int32} (h : zRg r M N ρ) (hi : i < 4) (h1 : ∀ j, j ≠ r + 8 + 2 * i + 1 → M1 j = M j) (h2 : ∀ p, p < 8 → M1 (r + 8 + 2 * i + 1) p = ρ1 (6 + 13 * i + (5 + p))) (hr : ∀ k, (∀ p, p < 8 → k ≠ 6 + 13 * i + (5 + p)) → ρ1 k = ρ k) : zRg r M1 N ρ1 := by
  obtain ⟨⟨a1, a2, a3, a4, a5, a6⟩, b, c, d1, d2, e, f, g⟩ := h
  have hk : ∀ k, k < 6 ∨ 58 ≤ k → ρ1 k = ρ k := fun k w => hr k (fun p hp => by omega)
  refine ⟨?_, fun i2 hi2 => ?_, fun c2 hc2 => ?_, d1.cg (fun c2 _ => hk _ (by omega)), d2.cg (fun c2 _ => hk _ (by omega)), fun j hj => ?_, fun j hj => ?_, fun u hu => (g u hu).cg (h1 _ (by omega)) (h1 _ (by omega)) (fun k w => hk k (by omega))⟩
  · rw [h1 r (by omega), hk 0 (by omega), hk 1 (by omega), hk 2 (by omega), hk 3 (by omega), hk 4 (by omega), hk 5 (by omega)]
    exact ⟨a1, a2, a3, a4, a5, a6⟩
  · by_cases q : i2 = i
    · subst q
      have hb := b i2 hi2
      unfold zFn
      rw [h1 (r + 8 + 2 * i2) (by omega), hr (6 + 13 * i2 + 3) (fun p _ => by omega), hr (6 + 13 * i2 + 0) (fun p _ => by omega), hr (6 + 13 * i2 + 1) (fun p _ => by omega), hr (6 + 13 * i2 + 2) (fun p _ => by omega), hr (6 + 13 * i2 + 4) (fun p _ => by omega)]
      exact ⟨hb.1, hb.2.1, hb.2.2.1, hb.2.2.2.1, hb.2.2.2.2.1, h2⟩
    · exact (b i2 hi2).cg (h1 _ (by omega)) (h1 _ (by omega)) (fun j hj => hr _ (fun p hp => by omega))
  · rw [h1 (r + 2) (by omega), h1 (r + 3) (by omega), hk _ (by omega), hk _ (by omega)]; exact c c2 hc2
  · rw [h1 (r + 4) (by omega), hk _ (by omega)]; exact e j hj
  · rw [h1 (r + 6) (by omega), hk _ (by omega)]; exact f j hj
/-- a number of the Range itself is set: where in the row -/
theorem zRg.fld {r k v : Nat} {M : zM} {N : zN} {ρ : Nat → Int32} {x : Int32} (h : zRg r M N ρ) (hk : (k = 1 ∧ v = 2) ∨ (k = 4 ∧ v = 3) ∨ (k = 7 ∧ v = 0) ∨ (k = 8 ∧ v = 1) ∨ (k = 10 ∧ v = 4) ∨ (k = 13 ∧ v = 5)) : zRg r (zu M r k x) N (upd ρ v x) := by
  obtain ⟨⟨a1, a2, a3, a4, a5, a6⟩, b, c, d1, d2, e, f, g⟩ := h
  have hr : ∀ j, 6 ≤ j → upd ρ v x j = ρ j := fun j hj => upd_ne (by omega)
  have hm : ∀ j, j ≠ r → zu M r k x j = M j := fun j hj => zu_ne hj
  refine ⟨?_, fun i hi => (b i hi).cg (hm _ (by omega)) (hm _ (by omega)) (fun j _ => hr _ (by omega)), fun c2 hc2 => ?_, d1.cg (fun c2 _ => hr _ (by omega)), d2.cg (fun c2 _ => hr _ (by omega)), fun j hj => ?_, fun j hj => ?_, fun u hu => (g u hu).cg (hm _ (by omega)) (hm _ (by omega)) (fun j w => hr j (by omega))⟩
  · rw [zu_at]
    rcases hk with ⟨rfl, rfl⟩ | ⟨rfl, rfl⟩ | ⟨rfl, rfl⟩ | ⟨rfl, rfl⟩ | ⟨rfl, rfl⟩ | ⟨rfl, rfl⟩ <;> simp [upd, a1, a2, a3, a4, a5, a6]
  · rw [hm (r + 2) (by omega), hm (r + 3) (by omega), hr _ (by omega), hr _ (by omega)]; exact c c2 hc2
  · rw [hm (r + 4) (by omega), hr _ (by omega)]; exact e j hj
  · rw [hm (r + 6) (by omega), hr _ (by omega)]; exact f j hj
/-- places that hold nothing of the row: the Laws' piles -/
theorem zRg.pile {r u : Nat} {M : zM} {N : zN} {ρ : Nat → Int32} {P : Nat → Int32} (h : zRg r M N ρ) (hu : u < 2) : zRg r (va_up M (r + 16 + 3 * u + 1) P) N ρ := by
  obtain ⟨a, b, c, d1, d2, e, f, g⟩ := h
  have hm : ∀ j, j ≠ r + 16 + 3 * u + 1 → va_up M (r + 16 + 3 * u + 1) P j = M j := fun j hj => va_up_ne _ _ hj
  refine ⟨?_, fun i hi => (b i hi).cg (hm _ (by omega)) (hm _ (by omega)) (fun _ _ => rfl), fun c2 hc2 => ?_, d1, d2, fun j hj => ?_, fun j hj => ?_, fun u2 hu2 => (g u2 hu2).cg (hm _ (by omega)) (hm _ (by omega)) (fun _ _ => rfl)⟩
  · rw [hm r (by omega)]; exact a
  · rw [hm (r + 2) (by omega), hm (r + 3) (by omega)]; exact c c2 hc2
  · rw [hm (r + 4) (by omega)]; exact e j hj
  · rw [hm (r + 6) (by omega)]; exact f j hj
