/-! sheets of the class and of the reference -/
theorem zh_sheet {s : Nat} (h : s < 4) : zsh (74 + 2 * s) = 3 := by
  rcases (show s = 0 ∨ s = 1 ∨ s = 2 ∨ s = 3 by omega) with rfl | rfl | rfl | rfl <;> rfl
theorem zRl.sh {M M1 : zM} {N : zN} {A A1 : zM} {s : Nat} (h : zRl M N A) (hm : ∀ j, j ≠ 74 + 2 * s → j ≠ 75 + 2 * s → M1 j = M j) (hA : ∀ j, j ≠ 87 → j ≠ 88 → j ≠ 89 → A1 j = A j) (hs : s < 4)
    (h1 : M1 (74 + 2 * s) 1 = A1 88 s ∧ M1 (74 + 2 * s) 2 = A1 87 s ∧ ∀ k, k < 24 → M1 (75 + 2 * s) k = A1 89 (24 * s + k)) (o : ∀ t, t < 4 → t ≠ s → A1 88 t = A 88 t ∧ A1 87 t = A 87 t ∧ ∀ k, k < 24 → A1 89 (24 * t + k) = A 89 (24 * t + k)) : zRl M1 N A1 := by
  obtain ⟨a, b, c, d, e, f, g⟩ := h
  refine ⟨?_, fun q => ?_, fun u hu => ?_, fun j hj => ?_, ?_, ⟨?_, fun j hj => ?_⟩, fun t ht => ?_⟩
  · rw [hA 83 (by decide) (by decide) (by decide)]; exact a.fr (fun j _ _ => hm j (by omega) (by omega)) (fun _ _ _ => rfl)
  · rw [hA 82 (by decide) (by decide) (by decide)] at q
    rw [hA 84 (by decide) (by decide) (by decide)]; exact (b q).fr (fun j _ _ => hm j (by omega) (by omega)) (fun _ _ _ => rfl)
  · rw [hm _ (by omega) (by omega), hm _ (by omega) (by omega)]; exact c u hu
  · rw [hm _ (by omega) (by omega), hA _ (by decide) (by decide) (by decide)]; exact d j hj
  · rw [hm _ (by omega) (by omega), hA _ (by decide) (by decide) (by decide)]; exact e
  · rw [hm _ (by omega) (by omega), hA _ (by decide) (by decide) (by decide)]; exact f.1
  · rw [hm _ (by omega) (by omega), hA _ (by decide) (by decide) (by decide)]; exact f.2 j hj
  · by_cases q : t = s
    · subst q; exact h1
    · rw [hm _ (by omega) (by omega), hm _ (by omega) (by omega), (o t ht q).1, (o t ht q).2.1]
      obtain ⟨g1, g2, g3⟩ := g t ht
      exact ⟨g1, g2, fun k hk => by rw [(o t ht q).2.2 k hk]; exact g3 k hk⟩
theorem zero_at {C : Nat → Int32} {s : Nat} : ∀ n k, k < n → sp_zero C s n (24 * s + k) = 0
  | 0, k, h => absurd h (Nat.not_lt_zero _)
  | n + 1, k, h => by
    show upd (sp_zero C s n) _ 0 _ = 0
    by_cases q : k = n
    · subst q; rw [upd_self]
    · rw [upd_ne (by omega)]; exact zero_at n k (by omega)
theorem zero_ne {C : Nat → Int32} {s j : Nat} : ∀ n, n ≤ 24 → (j < 24 * s ∨ 24 * s + 24 ≤ j) → sp_zero C s n j = C j
  | 0, _, _ => rfl
  | n + 1, h, w => by
    show upd (sp_zero C s n) _ 0 _ = _
    rw [upd_ne (by omega)]; exact zero_ne n (by omega) w
/-- a sheet begins anew -/
theorem zRl.shb {M : zM} {N : zN} {A : zM} {s : Nat} {b n : Int32} {F : Nat → Int32} (h : zRl M N A) (hs : s < 4) (hF : ∀ k, k < 24 → F k = 0) : zRl (va_up (zu (zu M (74 + 2 * s) 2 b) (74 + 2 * s) 1 n) (74 + 2 * s + 1) F) N (va_up (va_up (va_up A 87 (upd (A 87) s b)) 88 (upd (A 88) s n)) 89 (sp_zero (A 89) s 24)) := by
  refine h.sh (s := s) (fun j q w => by rw [va_up_ne _ _ (by omega), zu_ne q, zu_ne q]) (fun j a b c => by rw [va_up_ne _ _ c, va_up_ne _ _ b, va_up_ne _ _ a]) hs ⟨?_, ?_, fun k hk => ?_⟩ (fun t ht q => ⟨?_, ?_, fun k hk => ?_⟩)
  · rw [va_up_ne _ _ (by omega), zu_at, upd_self, va_up_ne _ _ (by decide), va_up_self, upd_self]
  · rw [va_up_ne _ _ (by omega), zu_at, upd_ne (by decide), zu_at, upd_self, va_up_ne _ _ (by decide), va_up_ne _ _ (by decide), va_up_self, upd_self]
  · rw [show 75 + 2 * s = 74 + 2 * s + 1 by omega, va_up_self, va_up_self, zero_at 24 k hk, hF k hk]
  · rw [va_up_ne _ _ (by decide), va_up_self, upd_ne q]
  · rw [va_up_ne _ _ (by decide), va_up_ne _ _ (by decide), va_up_self, upd_ne q]
  · rw [va_up_self, zero_ne 24 (by decide) (by omega)]
/-- a number is put -/
theorem zRl.shp {M : zM} {N : zN} {A : zM} {s i : Nat} {v : Int32} (h : zRl M N A) (hs : s < 4) (hi : i < 24) : zRl (zu M (74 + 2 * s + 1) i v) N (zu A 89 (24 * s + i) v) := by
  have hg := h.2.2.2.2.2.2
  refine h.sh (s := s) (fun j q w => zu_ne (by omega)) (fun j a b c => zu_ne c) hs ⟨?_, ?_, fun k hk => ?_⟩ (fun t ht q => ⟨?_, ?_, fun k hk => ?_⟩)
  · rw [zu_ne (by omega), zu_ne (by decide)]; exact (hg s hs).1
  · rw [zu_ne (by omega), zu_ne (by decide)]; exact (hg s hs).2.1
  · rw [show 75 + 2 * s = 74 + 2 * s + 1 by omega, zu_at, zu_at]
    by_cases q : k = i
    · subst q; rw [upd_self, upd_self]
    · rw [upd_ne q, upd_ne (by omega)]
      have := (hg s hs).2.2 k hk
      rw [show 75 + 2 * s = 74 + 2 * s + 1 by omega] at this; exact this
  · rw [zu_ne (by decide)]
  · rw [zu_ne (by decide)]
  · rw [zu_at, upd_ne (by omega)]
theorem st_ne {C : Nat → Int32} {s f j : Nat} : ∀ n k (ρ : Nat → Int32), k + n ≤ 8 → (∀ p, p < 8 → j ≠ 6 + 13 * f + (5 + p)) → (sp_sets C s f n k ρ).2 j = ρ j
  | 0, k, ρ, _, _ => rfl
  | n + 1, k, ρ, h, w => by
    unfold sp_sets
    split
    · rfl
    · rw [st_ne n (k + 1) _ (by omega) w, upd_ne (w k (by omega))]
/-- what is moved -/
theorem mv_f {C : Nat → Int32} {a b n : Nat} (hd : b ≤ a ∨ a + n ≤ b ∨ b + n ≤ a) : ∀ k, k ≤ n → ∀ x, sp_mvc C a b n false k x = if b ≤ x ∧ x < b + k then C (a + (x - b)) else C x
  | 0, _, x => by rw [if_neg (by omega)]; rfl
  | k + 1, hk, x => by
    show upd (sp_mvc C a b n false k) (b + k) (sp_mvc C a b n false k (a + k)) x = _
    by_cases q : x = b + k
    · subst q
      rw [upd_self, mv_f hd k (by omega), if_neg (by omega), if_pos (by omega), Nat.add_sub_cancel_left]
    · rw [upd_ne q, mv_f hd k (by omega)]
      by_cases w : b ≤ x ∧ x < b + k
      · rw [if_pos w, if_pos (by omega)]
      · rw [if_neg w, if_neg (by omega)]
theorem mv_b {C : Nat → Int32} {a b n : Nat} (hd : a ≤ b ∨ a + n ≤ b ∨ b + n ≤ a) : ∀ k, k ≤ n → ∀ x, sp_mvc C a b n true k x = if b + (n - k) ≤ x ∧ x < b + n then C (a + (x - b)) else C x
  | 0, _, x => by rw [if_neg (by omega)]; rfl
  | k + 1, hk, x => by
    show upd (sp_mvc C a b n true k) (b + (n - 1 - k)) (sp_mvc C a b n true k (a + (n - 1 - k))) x = _
    by_cases q : x = b + (n - 1 - k)
    · subst q
      rw [upd_self, mv_b hd k (by omega), if_neg (by omega), if_pos (by omega), Nat.add_sub_cancel_left]
    · rw [upd_ne q, mv_b hd k (by omega)]
      by_cases w : b + (n - k) ≤ x ∧ x < b + n
      · rw [if_pos w, if_pos (by omega)]
      · rw [if_neg w, if_neg (by omega)]
theorem mv_all {C : Nat → Int32} {a b n : Nat} {bk : Bool} (hd : (bk = false ∧ b ≤ a) ∨ (bk = true ∧ a ≤ b) ∨ a + n ≤ b ∨ b + n ≤ a) (x : Nat) : sp_mvc C a b n bk n x = if b ≤ x ∧ x < b + n then C (a + (x - b)) else C x := by
  cases bk
  · rw [mv_f (by rcases hd with q | q | q; exact Or.inl q.2; exact absurd q.1 Bool.false_ne_true; exact Or.inr q) n (Nat.le_refl _) x]
  · rw [mv_b (by rcases hd with q | q | q; exact absurd q.1.symm Bool.false_ne_true; exact Or.inl q.2; exact Or.inr q) n (Nat.le_refl _) x, Nat.sub_self, Nat.add_zero]
/-- numbers are moved -/
theorem zRl.shm {M : zM} {N : zN} {A : zM} {s u i j n : Nat} {bk : Bool} (h : zRl M N A) (hs : s < 4) (hu : u < 4) (hi : i + n ≤ 24) (hj : j + n ≤ 24) (hbk : bk = decide (i < j)) : zRl (va_up M (74 + 2 * u + 1) (va_cpy (M (74 + 2 * s + 1)) (M (74 + 2 * u + 1)) i j n)) N (va_up A 89 (sp_mvc (A 89) (24 * s + i) (24 * u + j) n bk n)) := by
  have hg := h.2.2.2.2.2.2
  have hmv : ∀ x, sp_mvc (A 89) (24 * s + i) (24 * u + j) n bk n x = if 24 * u + j ≤ x ∧ x < 24 * u + j + n then A 89 (24 * s + i + (x - (24 * u + j))) else A 89 x := by
    refine mv_all ?_
    by_cases q : s = u
    · subst q
      by_cases w : i < j
      · exact Or.inr (Or.inl ⟨by rw [hbk, decide_eq_true w], by omega⟩)
      · exact Or.inl ⟨by rw [hbk, decide_eq_false w], by omega⟩
    · right; right; omega
  refine h.sh (s := u) (fun j2 q w => va_up_ne _ _ (by omega)) (fun j2 a b c => va_up_ne _ _ c) hu ⟨?_, ?_, fun k hk => ?_⟩ (fun t ht q => ⟨?_, ?_, fun k hk => ?_⟩)
  · rw [va_up_ne _ _ (by omega), va_up_ne _ _ (by decide)]; exact (hg u hu).1
  · rw [va_up_ne _ _ (by omega), va_up_ne _ _ (by decide)]; exact (hg u hu).2.1
  · rw [show 75 + 2 * u = 74 + 2 * u + 1 by omega, va_up_self, va_up_self, hmv]
    unfold va_cpy
    have g1 := (hg s hs).2.2
    have g2 := (hg u hu).2.2 k hk
    rw [show 75 + 2 * s = 74 + 2 * s + 1 by omega] at g1
    rw [show 75 + 2 * u = 74 + 2 * u + 1 by omega] at g2
    by_cases w : j ≤ k ∧ k < j + n
    · rw [if_pos w, if_pos (by omega), g1 _ (by omega)]
      congr 1
      omega
    · rw [if_neg w, if_neg (by omega)]; exact g2
  · rw [va_up_ne _ _ (by decide)]
  · rw [va_up_ne _ _ (by decide)]
  · rw [va_up_self, hmv, if_neg (by omega)]
theorem part_no {z : Nat} {i n : Int32} (hz : z ≤ 24) : cg_part (nI z) i n = 0 ↔ n < 0 ∨ i < 0 ∨ nI z - i < n := by
  have ez := nI_toInt (show z < 2 ^ 31 by omega)
  have e0 : (0 : Int32).toInt = 0 := rfl
  have hi1 := i.toInt_lt
  have hn1 := n.toInt_lt
  unfold cg_part
  by_cases h1 : i < 0
  · rw [if_pos h1]; exact ⟨fun _ => Or.inr (Or.inl h1), fun _ => rfl⟩
  · rw [if_neg h1]
    have b1 := zi_nlt h1
    by_cases h2 : n < 0
    · rw [if_pos h2]; exact ⟨fun _ => Or.inl h2, fun _ => rfl⟩
    · rw [if_neg h2]
      have b2 := zi_nlt h2
      have s1 : (nI z - i).toInt = z - i.toInt := by rw [fb_subI (by omega) (by omega), ez]
      have s2 : (nI z - n).toInt = z - n.toInt := by rw [fb_subI (by omega) (by omega), ez]
      by_cases h3 : nI z < n
      · rw [if_pos h3]
        have := zi_lt h3
        exact ⟨fun _ => Or.inr (Or.inr (by rw [Int32.lt_iff_toInt_lt]; omega)), fun _ => rfl⟩
      · rw [if_neg h3]
        by_cases h4 : nI z - n < i
        · rw [if_pos h4]
          have := zi_lt h4
          exact ⟨fun _ => Or.inr (Or.inr (by rw [Int32.lt_iff_toInt_lt]; omega)), fun _ => rfl⟩
        · rw [if_neg h4]
          have := zi_nlt h4
          refine ⟨fun q => absurd q (by decide), fun q => ?_⟩
          rcases q with q | q | q
          · exact absurd q h2
          · exact absurd q h1
          · have := zi_lt q; omega
theorem part_yes {z : Nat} {i n : Int32} (hz : z ≤ 24) (h : ¬ cg_part (nI z) i n = 0) : ∃ a c : Nat, i = nI a ∧ n = nI c ∧ a + c ≤ z := by
  have ez := nI_toInt (show z < 2 ^ 31 by omega)
  have e0 : (0 : Int32).toInt = 0 := rfl
  rw [part_no hz] at h
  have h1 : ¬ n < 0 := fun q => h (Or.inl q)
  have h2 : ¬ i < 0 := fun q => h (Or.inr (Or.inl q))
  have h3 : ¬ nI z - i < n := fun q => h (Or.inr (Or.inr q))
  have b1 := zi_nlt h1
  have b2 := zi_nlt h2
  have b3 := zi_nlt h3
  have hi1 := i.toInt_lt
  have s1 : (nI z - i).toInt = z - i.toInt := by rw [fb_subI (by omega) (by omega), ez]
  obtain ⟨a, ha, ea⟩ := zle_of (x := i) (n := z) (by omega) (by omega) (by omega)
  obtain ⟨c, hc, ec⟩ := zle_of (x := n) (n := z) (by omega) (by omega) (by omega)
  refine ⟨a, c, ea, ec, ?_⟩
  rw [ea, nI_toInt (by omega)] at s1
  rw [ea, s1, ec, nI_toInt (by omega)] at b3
  omega
