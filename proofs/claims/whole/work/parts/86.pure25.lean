/-! a Range of which more is set; the class and the reference side by side -/
theorem zRg.fr {r : Nat} {M M1 : zM} {N N1 : zN} {ρ : Nat → Int32} (h : zRg r M N ρ) (hm : ∀ j, r ≤ j → j < r + 22 → M1 j = M j) (hn : ∀ j, r ≤ j → j < r + 22 → N1 j = N j) : zRg r M1 N1 ρ := by
  obtain ⟨a, b, c, d1, d2, e, f, g⟩ := h
  refine ⟨?_, fun i hi => (b i hi).cg (hm _ (by omega) (by omega)) (hm _ (by omega) (by omega)) (fun _ _ => rfl), fun c2 hc2 => ?_, ?_, ?_, fun j hj => ?_, fun j hj => ?_, fun u2 hu2 => (g u2 hu2).cg (hm _ (by omega) (by omega)) (hm _ (by omega) (by omega)) (fun _ _ => rfl)⟩
  · rw [hm r (by omega) (by omega)]; exact a
  · rw [hm (r + 2) (by omega) (by omega), hm (r + 3) (by omega) (by omega)]; exact c c2 hc2
  · rw [hn r (by omega) (by omega)]; exact d1
  · rw [hn r (by omega) (by omega)]; exact d2
  · rw [hm (r + 4) (by omega) (by omega)]; exact e j hj
  · rw [hm (r + 6) (by omega) (by omega)]; exact f j hj
theorem zRg.fen {r i : Nat} {M M1 : zM} {N : zN} {ρ ρ1 : Nat → Int32} (h : zRg r M N ρ) (hi : i < 4) (hm : ∀ j, j ≠ r + 8 + 2 * i → j ≠ r + 8 + 2 * i + 1 → M1 j = M j) (hf : zFn (r + 8 + 2 * i) M1 ρ1 i) (hr : ∀ k, (∀ j, j < 13 → k ≠ 6 + 13 * i + j) → ρ1 k = ρ k) : zRg r M1 N ρ1 := by
  obtain ⟨a, b, c, d1, d2, e, f, g⟩ := h
  have hr6 : ∀ k, k < 6 → ρ1 k = ρ k := fun k hk => hr k (fun j _ => by omega)
  have hr58 : ∀ k, 58 ≤ k → ρ1 k = ρ k := fun k hk => hr k (fun j _ => by omega)
  refine ⟨?_, fun i2 hi2 => ?_, fun c2 hc2 => ?_, d1.cg (fun c2 _ => hr58 _ (by omega)), d2.cg (fun c2 _ => hr58 _ (by omega)), fun j hj => ?_, fun j hj => ?_, fun u hu => (g u hu).cg (hm _ (by omega) (by omega)) (hm _ (by omega) (by omega)) (fun j w => hr58 j (by omega))⟩
  · rw [hm r (by omega) (by omega), hr6 0 (by omega), hr6 1 (by omega), hr6 2 (by omega), hr6 3 (by omega), hr6 4 (by omega), hr6 5 (by omega)]; exact a
  · by_cases q : i2 = i
    · subst q; exact hf
    · exact (b i2 hi2).cg (hm _ (by omega) (by omega)) (hm _ (by omega) (by omega)) (fun j hj => hr _ (fun k _ => by omega))
  · rw [hm (r + 2) (by omega) (by omega), hm (r + 3) (by omega) (by omega), hr58 _ (by omega), hr58 _ (by omega)]; exact c c2 hc2
  · rw [hm (r + 4) (by omega) (by omega), hr58 _ (by omega)]; exact e j hj
  · rw [hm (r + 6) (by omega) (by omega), hr58 _ (by omega)]; exact f j hj
/-- a number of a fence -/
theorem zRg.f1 {r i k v : Nat} {M : zM} {N : zN} {ρ : Nat → Int32} {x : Int32} (h : zRg r M N ρ) (hi : i < 4) (hk : (k = 1 ∧ v = 3) ∨ (k = 2 ∧ v = 0) ∨ (k = 3 ∧ v = 1) ∨ (k = 4 ∧ v = 2) ∨ (k = 5 ∧ v = 4)) : zRg r (zu M (r + 8 + 2 * i) k x) N (upd ρ (6 + 13 * i + v) x) := by
  refine h.fen hi (fun j a _ => zu_ne a) ?_ (fun k2 h2 => upd_ne (h2 v (by omega)))
  obtain ⟨b1, b2, b3, b4, b5, b6⟩ := h.2.1 i hi
  refine ⟨?_, ?_, ?_, ?_, ?_, fun p hp => ?_⟩
  · rw [zu_at]; rcases hk with ⟨rfl, rfl⟩ | ⟨rfl, rfl⟩ | ⟨rfl, rfl⟩ | ⟨rfl, rfl⟩ | ⟨rfl, rfl⟩ <;> simp [upd, b1]
  · rw [zu_at]; rcases hk with ⟨rfl, rfl⟩ | ⟨rfl, rfl⟩ | ⟨rfl, rfl⟩ | ⟨rfl, rfl⟩ | ⟨rfl, rfl⟩ <;> simp [upd, b2]
  · rw [zu_at]; rcases hk with ⟨rfl, rfl⟩ | ⟨rfl, rfl⟩ | ⟨rfl, rfl⟩ | ⟨rfl, rfl⟩ | ⟨rfl, rfl⟩ <;> simp [upd, b3]
  · rw [zu_at]; rcases hk with ⟨rfl, rfl⟩ | ⟨rfl, rfl⟩ | ⟨rfl, rfl⟩ | ⟨rfl, rfl⟩ | ⟨rfl, rfl⟩ <;> simp [upd, b4]
  · rw [zu_at]; rcases hk with ⟨rfl, rfl⟩ | ⟨rfl, rfl⟩ | ⟨rfl, rfl⟩ | ⟨rfl, rfl⟩ | ⟨rfl, rfl⟩ <;> simp [upd, b5]
  · rw [zu_ne (by omega), upd_ne (by omega)]; exact b6 p hp
/-- a cell of a fence -/
theorem zRg.cel {r i k : Nat} {M : zM} {N : zN} {ρ : Nat → Int32} {x : Int32} (h : zRg r M N ρ) (hi : i < 4) (hk : k < 8) : zRg r (zu M (r + 8 + 2 * i + 1) k x) N (upd ρ (6 + 13 * i + (5 + k)) x) := by
  refine h.fen hi (fun j _ b => zu_ne b) ?_ (fun k2 h2 => upd_ne (h2 (5 + k) (by omega)))
  obtain ⟨b1, b2, b3, b4, b5, b6⟩ := h.2.1 i hi
  refine ⟨?_, ?_, ?_, ?_, ?_, fun p hp => ?_⟩
  · rw [zu_ne (by omega), upd_ne (by omega)]; exact b1
  · rw [zu_ne (by omega), upd_ne (by omega)]; exact b2
  · rw [zu_ne (by omega), upd_ne (by omega)]; exact b3
  · rw [zu_ne (by omega), upd_ne (by omega)]; exact b4
  · rw [zu_ne (by omega), upd_ne (by omega)]; exact b5
  · rw [zu_at]
    by_cases q : p = k
    · subst q; rw [upd_self, upd_self]
    · rw [upd_ne q, upd_ne (by omega)]; exact b6 p hp
/-- a number that waits -/
theorem zRg.wai {r k : Nat} {M : zM} {N : zN} {ρ : Nat → Int32} {x : Int32} (h : zRg r M N ρ) (hk : k < 24) : zRg r (zu M (r + 6) k x) N (upd ρ (258 + k) x) := by
  obtain ⟨a, b, c, d1, d2, e, f, g⟩ := h
  have hm : ∀ j, j ≠ r + 6 → zu M (r + 6) k x j = M j := fun j hj => zu_ne hj
  have hr : ∀ j, j ≠ 258 + k → upd ρ (258 + k) x j = ρ j := fun j hj => upd_ne hj
  refine ⟨?_, fun i hi => (b i hi).cg (hm _ (by omega)) (hm _ (by omega)) (fun j _ => hr _ (by omega)), fun c2 hc2 => ?_, d1.cg (fun c2 _ => hr _ (by omega)), d2.cg (fun c2 _ => hr _ (by omega)), fun j hj => ?_, fun j hj => ?_, fun u hu => (g u hu).cg (hm _ (by omega)) (hm _ (by omega)) (fun j w => hr j (by omega))⟩
  · rw [hm r (by omega), hr 0 (by omega), hr 1 (by omega), hr 2 (by omega), hr 3 (by omega), hr 4 (by omega), hr 5 (by omega)]; exact a
  · rw [hm (r + 2) (by omega), hm (r + 3) (by omega), hr _ (by omega), hr _ (by omega)]; exact c c2 hc2
  · rw [hm (r + 4) (by omega), hr _ (by omega)]; exact e j hj
  · rw [zu_at]
    by_cases q : j = k
    · subst q; rw [upd_self, upd_self]
    · rw [upd_ne q, upd_ne (by omega)]; exact f j hj
/-- a byte of the tape -/
theorem zRg.tap {r k : Nat} {M : zM} {N : zN} {ρ : Nat → Int32} {x y : Int32} (h : zRg r M N ρ) (hk : k < 60) (hy : y = x.toInt8.toInt32) : zRg r (zu M (r + 4) k y) N (upd ρ (198 + k) x) := by
  obtain ⟨a, b, c, d1, d2, e, f, g⟩ := h
  have hm : ∀ j, j ≠ r + 4 → zu M (r + 4) k y j = M j := fun j hj => zu_ne hj
  have hr : ∀ j, j ≠ 198 + k → upd ρ (198 + k) x j = ρ j := fun j hj => upd_ne hj
  refine ⟨?_, fun i hi => (b i hi).cg (hm _ (by omega)) (hm _ (by omega)) (fun j _ => hr _ (by omega)), fun c2 hc2 => ?_, d1.cg (fun c2 _ => hr _ (by omega)), d2.cg (fun c2 _ => hr _ (by omega)), fun j hj => ?_, fun j hj => ?_, fun u hu => (g u hu).cg (hm _ (by omega)) (hm _ (by omega)) (fun j w => hr j (by omega))⟩
  · rw [hm r (by omega), hr 0 (by omega), hr 1 (by omega), hr 2 (by omega), hr 3 (by omega), hr 4 (by omega), hr 5 (by omega)]; exact a
  · rw [hm (r + 2) (by omega), hm (r + 3) (by omega), hr _ (by omega), hr _ (by omega)]; exact c c2 hc2
  · rw [zu_at]
    by_cases q : j = k
    · subst q; rw [upd_self, upd_self, hy]
    · rw [upd_ne q, upd_ne (by omega)]; exact e j hj
  · rw [hm (r + 6) (by omega), hr _ (by omega)]; exact f j hj
/-- a Law is set anew -/
theorem zRg.law {r u : Nat} {M M1 : zM} {N : zN} {ρ ρ1 : Nat → Int32} (h : zRg r M N ρ) (hL : ∀ u, u < 2 → sp_len ρ u ≤ 60) (hu : u < 2) (hm : ∀ j, j ≠ r + 16 + 3 * u → j ≠ r + 16 + 3 * u + 2 → M1 j = M j) (hl : zLw (r + 16 + 3 * u) u M1 ρ1) (hr : ∀ k, k < 282 + 121 * u ∨ 282 + 121 * u + 121 ≤ k → ρ1 k = ρ k) : zRg r M1 N ρ1 := by
  obtain ⟨a, b, c, d1, d2, e, f, g⟩ := h
  have hr2 : ∀ k, k < 282 → ρ1 k = ρ k := fun k hk => hr k (by omega)
  refine ⟨?_, fun i hi => (b i hi).cg (hm _ (by omega) (by omega)) (hm _ (by omega) (by omega)) (fun j _ => hr2 _ (by omega)), fun c2 hc2 => ?_, d1.cg (fun c2 _ => hr2 _ (by omega)), d2.cg (fun c2 _ => hr2 _ (by omega)), fun j hj => ?_, fun j hj => ?_, fun u2 hu2 => ?_⟩
  · rw [hm r (by omega) (by omega), hr2 0 (by omega), hr2 1 (by omega), hr2 2 (by omega), hr2 3 (by omega), hr2 4 (by omega), hr2 5 (by omega)]; exact a
  · rw [hm (r + 2) (by omega) (by omega), hm (r + 3) (by omega) (by omega), hr2 _ (by omega), hr2 _ (by omega)]; exact c c2 hc2
  · rw [hm (r + 4) (by omega) (by omega), hr2 _ (by omega)]; exact e j hj
  · rw [hm (r + 6) (by omega) (by omega), hr2 _ (by omega)]; exact f j hj
  · by_cases q : u2 = u
    · subst q; exact hl
    · obtain ⟨g1, g2, g3⟩ := g u2 hu2
      have h60 : ∀ k, k < 121 → ρ1 (282 + 121 * u2 + k) = ρ (282 + 121 * u2 + k) := fun k hk => hr _ (by omega)
      have e0 := h60 0 (by decide)
      have hmm : M1 (r + 16 + 3 * u2) = M (r + 16 + 3 * u2) := hm _ (by omega) (by omega)
      have hmm2 : M1 (r + 16 + 3 * u2 + 2) = M (r + 16 + 3 * u2 + 2) := hm _ (by omega) (by omega)
      have eL : sp_len ρ1 u2 = sp_len ρ u2 := by unfold sp_len; rw [show ρ1 (282 + 121 * u2) = ρ (282 + 121 * u2) from e0]
      refine ⟨by rw [hmm]; exact g1, by rw [hmm]; exact g2.trans e0.symm, fun k hk => ?_⟩
      rw [eL] at hk
      rw [hmm2]
      have w : k < 60 := by have := hL u2 hu2; omega
      have := g3 k hk
      unfold sp_A sp_W at this ⊢
      rw [show ρ1 (282 + 121 * u2 + 1 + k) = ρ (282 + 121 * u2 + 1 + k) from by have := h60 (1 + k) (by omega); rw [← Nat.add_assoc] at this; exact this, show ρ1 (282 + 121 * u2 + 61 + k) = ρ (282 + 121 * u2 + 61 + k) from by have := h60 (61 + k) (by omega); rw [← Nat.add_assoc] at this; exact this]
      exact this
/-- the class (places below 82 of M, N) holds what the reference's places A (from 82 on) say -/
def zRl (M : zM) (N : zN) (A : zM) : Prop := zRg 1 M N (A 83) ∧ (¬ A 82 3 = 0 → zRg 23 M N (A 84)) ∧ (∀ u, u < 2 → M (39 + 3 * u) 0 = nI u ∧ M (61 + 3 * u) 0 = nI u) ∧ (∀ j, j < 7 → M 73 j = A 86 j) ∧ M 0 7 = A 82 3 ∧ (M 70 1 = A 82 18 ∧ ∀ j, j < 30 → M 71 j = A 94 j) ∧ ∀ s, s < 4 → M (74 + 2 * s) 1 = A 88 s ∧ M (74 + 2 * s) 2 = A 87 s ∧ ∀ k, k < 24 → M (75 + 2 * s) k = A 89 (24 * s + k)
def zHi (M M1 : zM) : Prop := ∀ i, 82 ≤ i → M1 i = M i
theorem zHi.rf {M : zM} : zHi M M := fun _ _ => rfl
theorem zHi.tr {M M1 M2 : zM} (h : zHi M M1) (h2 : zHi M1 M2) : zHi M M2 := fun i hi => (h2 i hi).trans (h i hi)
theorem zHi.zu {M M1 : zM} {i k : Nat} {v : Int32} (h : zHi M M1) (hi : i < 82) : zHi M (zu M1 i k v) := fun j hj => by rw [zu_ne (by omega)]; exact h j hj
theorem zHi.va {M M1 : zM} {i : Nat} {f : Nat → Int32} (h : zHi M M1) (hi : i < 82) : zHi M (va_up M1 i f) := fun j hj => by rw [va_up_ne _ _ (by omega)]; exact h j hj
theorem zHi.fr {M M1 M2 : zM} {r : Nat} (h : zHi M M1) (h2 : zFr r M1 M2) (hr : r + 22 ≤ 82) : zHi M M2 := fun j hj => (h2 j (by omega)).trans (h j hj)
/-- the Range now is another one -/
theorem zRl.now {M M1 : zM} {N N1 : zN} {A : zM} {ρ1 : Nat → Int32} (h : zRl M N A) (h1 : zRg 1 M1 N1 ρ1) (hm : ∀ j, 23 ≤ j ∨ j = 0 → M1 j = M j) (hn : ∀ j, 23 ≤ j → N1 j = N j) : zRl M1 N1 (va_up A 83 ρ1) := by
  obtain ⟨a, b, c, d, e, f, g⟩ := h
  refine ⟨by rw [va_up_self]; exact h1, fun q => ?_, fun u hu => ?_, fun j hj => ?_, ?_, ⟨?_, fun j hj => ?_⟩, fun s hs => ?_⟩
  · rw [va_up_ne _ _ (by decide)] at q ⊢
    exact (b q).fr (fun j _ _ => hm j (by omega)) (fun j _ _ => hn j (by omega))
  · rw [hm _ (by omega), hm _ (by omega)]; exact c u hu
  · rw [hm _ (by omega), va_up_ne _ _ (by decide)]; exact d j hj
  · rw [hm _ (by omega), va_up_ne _ _ (by decide)]; exact e
  · rw [hm _ (by omega), va_up_ne _ _ (by decide)]; exact f.1
  · rw [hm _ (by omega), va_up_ne _ _ (by decide)]; exact f.2 j hj
  · rw [hm _ (by omega), hm _ (by omega), va_up_ne _ _ (by decide), va_up_ne _ _ (by decide), va_up_ne _ _ (by decide)]; exact g s hs
/-- an error is told -/
theorem zRl.er {M : zM} {N : zN} {A : zM} {k : Nat} (h : zRl M N A) (hk : k < 7) : zRl (zu M 73 k (M 73 k + 1)) N (zEr A k) := by
  obtain ⟨a, b, c, d, e, f, g⟩ := h
  have hm : ∀ j, j ≠ 73 → zu M 73 k (M 73 k + 1) j = M j := fun j hj => zu_ne hj
  unfold zEr
  refine ⟨?_, fun q => ?_, fun u hu => ?_, fun j hj => ?_, ?_, ⟨?_, fun j hj => ?_⟩, fun s hs => ?_⟩
  · rw [zu_ne (show (83 : Nat) ≠ 86 by decide)]; exact a.fr (fun j _ _ => hm j (by omega)) (fun _ _ _ => rfl)
  · rw [zu_ne (show (82 : Nat) ≠ 86 by decide)] at q
    rw [zu_ne (show (84 : Nat) ≠ 86 by decide)]
    exact (b q).fr (fun j _ _ => hm j (by omega)) (fun _ _ _ => rfl)
  · rw [hm _ (by omega), hm _ (by omega)]; exact c u hu
  · rw [zu_at, zu_at]
    by_cases q : j = k
    · subst q; rw [upd_self, upd_self, d j hj]
    · rw [upd_ne q, upd_ne q]; exact d j hj
  · rw [hm _ (by omega), zu_ne (by decide)]; exact e
  · rw [hm _ (by omega), zu_ne (by decide)]; exact f.1
  · rw [hm _ (by omega), zu_ne (by decide)]; exact f.2 j hj
  · rw [hm _ (by omega), hm _ (by omega), zu_ne (by decide), zu_ne (by decide), zu_ne (by decide)]; exact g s hs
/-- places that nothing looks at: the Range of thoughts, what was seen, piles -/
theorem zRl.sc {M M1 : zM} {N N1 : zN} {A : zM} (h : zRl M N A) (h1 : zRg 1 M1 N1 (A 83)) (hm : ∀ j, 23 ≤ j ∧ j < 45 ∨ 69 ≤ j ∨ j = 0 → M1 j = M j) (hn : ∀ j, 23 ≤ j ∧ j < 45 → N1 j = N j) (hu : ∀ u, u < 2 → M1 (61 + 3 * u) 0 = nI u) : zRl M1 N1 A := by
  obtain ⟨a, b, c, d, e, f, g⟩ := h
  refine ⟨h1, fun q => (b q).fr (fun j _ _ => hm j (by omega)) (fun j _ _ => hn j (by omega)), fun u hu2 => ⟨by rw [hm _ (by omega)]; exact (c u hu2).1, hu u hu2⟩, fun j hj => ?_, ?_, ⟨?_, fun j hj => ?_⟩, fun s hs => ?_⟩
  · rw [hm _ (by omega)]; exact d j hj
  · rw [hm _ (by omega)]; exact e
  · rw [hm _ (by omega)]; exact f.1
  · rw [hm _ (by omega)]; exact f.2 j hj
  · rw [hm _ (by omega), hm _ (by omega)]; exact g s hs
/-- tests of bounds -/
theorem zin_lo {w a b : Int32} (h : w < a) : zin w a b = 0 := by unfold zin; rw [if_pos h]
theorem zin_hi {w a b : Int32} (h : b < w) : zin w a b = 0 := by
  unfold zin
  by_cases q : w < a
  · rw [if_pos q]
  · rw [if_neg q, if_pos h]
theorem zin_in {w a b : Int32} (h1 : ¬ w < a) (h2 : ¬ b < w) : ¬ zin w a b = 0 := by unfold zin; rw [if_neg h1, if_neg h2]; decide
theorem cg_lt {f : Int32} {n : Nat} (hn : n < 2 ^ 31) : (if f < 0 then 0 else if f < nI n then 1 else 0) = zin f 0 (nI n - 1) := by
  unfold zin
  by_cases h : f < 0
  · rw [if_pos h, if_pos h]
  · rw [if_neg h, if_neg h]
    have e : (nI n - 1).toInt = n - 1 := by
      rw [fb_subI (by rw [nI_toInt hn]; show _ ≤ (n : Int) - 1; omega) (by rw [nI_toInt hn]; show (n : Int) - 1 < _; omega), nI_toInt hn]; rfl
    have e2 := nI_toInt hn
    by_cases h2 : f < nI n
    · rw [if_pos h2, if_neg (fun q => by have := zi_lt q; have := zi_lt h2; omega)]
    · rw [if_neg h2, if_pos (by rw [Int32.lt_iff_toInt_lt]; have := zi_nlt h2; omega)]
