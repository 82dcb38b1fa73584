/-! a Range: single numbers of it are set -/
theorem sp_posts_cg {ρ ρ1 : Nat → Int32} {i : Nat} : ∀ n, (∀ p, p < n → ρ1 (6 + 13 * i + (5 + p)) = ρ (6 + 13 * i + (5 + p))) → sp_posts ρ1 i n = sp_posts ρ i n
  | 0, _ => rfl
  | n + 1, h => by
    show sp_posts ρ1 i n ||| zlshl 1 _ = sp_posts ρ i n ||| zlshl 1 _
    rw [sp_posts_cg n (fun p hp => h p (by omega)), h n (by omega)]
theorem sp_ins_cg {ρ ρ1 : Nat → Int32} {i : Nat} (hn : sp_np ρ i ≤ 8) (h3 : ρ1 (6 + 13 * i + 3) = ρ (6 + 13 * i + 3)) (hp : ∀ p, p < 8 → ρ1 (6 + 13 * i + (5 + p)) = ρ (6 + 13 * i + (5 + p))) : sp_ins ρ1 i = sp_ins ρ i := by
  unfold sp_ins sp_pset
  have e : sp_np ρ1 i = sp_np ρ i := by unfold sp_np; rw [h3]
  rw [e, sp_posts_cg _ (fun p q => hp p (by omega))]
theorem zRg.rich {r i : Nat} {M : zM} {N : zN} {ρ : Nat → Int32} {v : Int32} (h : zRg r M N ρ) (hi : i < 4) : zRg r (zu M (r + 8 + 2 * i) 5 v) N (upd ρ (6 + 13 * i + 4) v) := by
  obtain ⟨a, b, c, d1, d2, e, f, g⟩ := h
  have hm : ∀ j, j ≠ r + 8 + 2 * i → zu M (r + 8 + 2 * i) 5 v j = M j := fun j hj => zu_ne hj
  have hr : ∀ k, k ≠ 6 + 13 * i + 4 → upd ρ (6 + 13 * i + 4) v k = ρ k := fun k hk => upd_ne hk
  refine ⟨?_, fun i2 hi2 => ?_, fun c2 hc2 => ?_, d1.cg (fun c2 _ => hr _ (by omega)), d2.cg (fun c2 _ => hr _ (by omega)), fun j hj => ?_, fun j hj => ?_, fun u hu => (g u hu).cg (hm _ (by omega)) (hm _ (by omega)) (fun j w => hr j (by omega))⟩
  · rw [hm r (by omega), hr 0 (by omega), hr 1 (by omega), hr 2 (by omega), hr 3 (by omega), hr 4 (by omega), hr 5 (by omega)]; exact a
  · by_cases q : i2 = i
    · subst q
      have hb := b i2 hi2
      refine ⟨?_, ?_, ?_, ?_, ?_, fun p hp => ?_⟩
      · rw [zu_at, upd_ne (by decide), hr _ (by omega)]; exact hb.1
      · rw [zu_at, upd_ne (by decide), hr _ (by omega)]; exact hb.2.1
      · rw [zu_at, upd_ne (by decide), hr _ (by omega)]; exact hb.2.2.1
      · rw [zu_at, upd_ne (by decide), hr _ (by omega)]; exact hb.2.2.2.1
      · rw [zu_at, upd_self, upd_self]
      · rw [hm (r + 8 + 2 * i2 + 1) (by omega), hr _ (by omega)]; exact hb.2.2.2.2.2 p hp
    · exact (b i2 hi2).cg (hm _ (by omega)) (hm _ (by omega)) (fun j hj => hr _ (by omega))
  · rw [hm (r + 2) (by omega), hm (r + 3) (by omega), hr _ (by omega), hr _ (by omega)]; exact c c2 hc2
  · rw [hm (r + 4) (by omega), hr _ (by omega)]; exact e j hj
  · rw [hm (r + 6) (by omega), hr _ (by omega)]; exact f j hj
/-- a cell (t = 0) or a fat (t = 1) of the cattle -/
theorem zRg.cat {r t k : Nat} {M : zM} {N : zN} {ρ : Nat → Int32} {v : Int32} (h : zRg r M N ρ) (ht : t < 2) (hk : k < 6) : zRg r (zu M (r + 2 + t) k v) N (upd ρ (58 + 2 * k + t) v) := by
  obtain ⟨a, b, c, d1, d2, e, f, g⟩ := h
  have hm : ∀ j, j ≠ r + 2 + t → zu M (r + 2 + t) k v j = M j := fun j hj => zu_ne hj
  have hr : ∀ j, j ≠ 58 + 2 * k + t → upd ρ (58 + 2 * k + t) v j = ρ j := fun j hj => upd_ne hj
  refine ⟨?_, fun i2 hi2 => (b i2 hi2).cg (hm _ (by omega)) (hm _ (by omega)) (fun j hj => hr _ (by omega)), fun c2 hc2 => ?_, d1.cg (fun c2 _ => hr _ (by omega)), d2.cg (fun c2 _ => hr _ (by omega)), fun j hj => ?_, fun j hj => ?_, fun u hu => (g u hu).cg (hm _ (by omega)) (hm _ (by omega)) (fun j w => hr j (by omega))⟩
  · rw [hm r (by omega), hr 0 (by omega), hr 1 (by omega), hr 2 (by omega), hr 3 (by omega), hr 4 (by omega), hr 5 (by omega)]; exact a
  · have hc := c c2 hc2
    rcases (show t = 0 ∨ t = 1 by omega) with rfl | rfl
    · rw [hm (r + 3) (by omega), hr (58 + 2 * c2 + 1) (by omega), show r + 2 + 0 = r + 2 from rfl, zu_at]
      by_cases q : c2 = k
      · subst q; rw [upd_self, show 58 + 2 * c2 + 0 = 58 + 2 * c2 from rfl, upd_self]; exact ⟨rfl, hc.2⟩
      · rw [upd_ne q, hr _ (by omega)]; exact hc
    · rw [hm (r + 2) (by omega), hr (58 + 2 * c2) (by omega), show r + 2 + 1 = r + 3 from rfl, zu_at]
      by_cases q : c2 = k
      · subst q; rw [upd_self, upd_self]; exact ⟨hc.1, rfl⟩
      · rw [upd_ne q, hr _ (by omega)]; exact hc
  · rw [hm (r + 4) (by omega), hr _ (by omega)]; exact e j hj
  · rw [hm (r + 6) (by omega), hr _ (by omega)]; exact f j hj
theorem min_held {a : Nat} (ha : a < 2 ^ 30) : (if nI a < 99999 then nI a else 99999) = zheld (nI a) 0 99999 := by
  unfold zheld
  rw [if_neg (nI_pos (by omega)), show (99999 : Int32) = nI 99999 from rfl]
  by_cases w : a < 99999
  · rw [if_pos (nI_lt w (by decide)), if_neg (nI_nlt (by omega) (by decide))]
  · rw [if_neg (nI_nlt (a := a) (b := 99999) (by omega) (by omega))]
    by_cases h2 : a = 99999
    · subst h2; rw [if_neg (nI_nlt (Nat.le_refl _) (by decide))]
    · rw [if_pos (nI_lt (a := 99999) (by omega) (by omega))]
