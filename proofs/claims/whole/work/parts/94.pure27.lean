/-! what text lays; voices' traces -/
theorem lay_ne {ρ : Nat → Int32} {u j : Nat} {l : List (Int32 × Int32)} : ∀ k, k ≤ 60 → (j < 282 + 121 * u + 1 ∨ 282 + 121 * u + 121 ≤ j) → sp_lawN ρ u l k j = ρ j
  | 0, _, _ => rfl
  | k + 1, h, w => by
    show upd (upd (sp_lawN ρ u l k) _ _) _ _ j = ρ j
    rw [upd_ne (by omega), upd_ne (by omega)]
    exact lay_ne k (by omega) w
theorem lay_AW {ρ : Nat → Int32} {u : Nat} {l : List (Int32 × Int32)} : ∀ n, n ≤ 60 → ∀ k, k < n → sp_lawN ρ u l n (282 + 121 * u + 1 + k) = (l.getD k (0, 0)).1 ∧ sp_lawN ρ u l n (282 + 121 * u + 61 + k) = (l.getD k (0, 0)).2
  | 0, _, k, h => absurd h (Nat.not_lt_zero _)
  | n + 1, hn, k, h => by
    show upd (upd (sp_lawN ρ u l n) _ _) _ _ _ = _ ∧ upd (upd (sp_lawN ρ u l n) _ _) _ _ _ = _
    by_cases q : k = n
    · subst q
      rw [upd_ne (by omega), upd_self, upd_self]
      exact ⟨rfl, rfl⟩
    · rw [upd_ne (by omega), upd_ne (by omega), upd_ne (by omega), upd_ne (by omega)]
      exact lay_AW n (by omega) k (by omega)
theorem lay_lw {M : zM} {w u : Nat} {ρ : Nat → Int32} {l : List (Int32 × Int32)} (h0 : M w 0 = nI u) (hl : l.length ≤ 60) (hc : ∀ k, k < l.length → zTok (l.getD k (0, 0)).1 (l.getD k (0, 0)).2 (M 68 k)) : zLw w u (tc_M M w 68 l.length) (sp_lay ρ u l) := by
  have e0 : sp_lay ρ u l (282 + 121 * u) = nI l.length := by
    unfold sp_lay
    rw [lay_ne _ hl (by omega), upd_self]
  have eL : sp_len (sp_lay ρ u l) u = l.length := by
    unfold sp_len
    rw [e0, zn_nI (by omega)]
  refine tc_lw h0 e0 eL (fun k hk => ?_)
  rw [eL] at hk
  unfold sp_A sp_W sp_lay
  rw [(lay_AW _ hl k hk).1, (lay_AW _ hl k hk).2]
  exact hc k hk
theorem lay_out {ρ : Nat → Int32} {u : Nat} {l : List (Int32 × Int32)} (hl : l.length ≤ 60) : ∀ k, k < 282 + 121 * u ∨ 282 + 121 * u + 121 ≤ k → sp_lay ρ u l k = ρ k := fun k hk => by
  unfold sp_lay
  rw [lay_ne _ hl (by omega), upd_ne (by omega)]
theorem sp_app_cg {T T2 : Nat → Int32} : ∀ {l : List Int32} {k : Nat}, (∀ j, j < 30 → T j = T2 j) → ∀ j, j < 30 → sp_app T k l j = sp_app T2 k l j
  | [], k, h, j, hj => h j hj
  | b :: l, k, h, j, hj => by
    show sp_app (upd T k b) (k + 1) l j = sp_app (upd T2 k b) (k + 1) l j
    refine sp_app_cg (fun i hi => ?_) j hj
    unfold upd
    split
    · rfl
    · exact h i hi
theorem zRl.vo {M M1 : zM} {N : zN} {A : zM} {l : List Int32} (h : zRl M N A) (hm : ∀ i, i ≠ 70 → i ≠ 71 → M1 i = M i) (h1 : M1 70 1 = nI l.length) (h2 : M1 71 = sp_app (M 71) 0 l) : zRl M1 N (vo_M A l) := by
  obtain ⟨a, b, c, d, e, f, g⟩ := h
  have hA : ∀ j, j ≠ 82 → j ≠ 94 → vo_M A l j = A j := fun j q w => by unfold vo_M; rw [va_up_ne _ _ w, zu_ne q]
  have hA8 : ∀ k, k ≠ 18 → vo_M A l 82 k = A 82 k := fun k q => by unfold vo_M; rw [va_up_ne _ _ (by decide), zu_at, upd_ne q]
  refine ⟨?_, fun q => ?_, fun u hu => ?_, fun j hj => ?_, ?_, ⟨?_, fun j hj => ?_⟩, fun s hs => ?_⟩
  · rw [hA 83 (by decide) (by decide)]; exact a.fr (fun j _ _ => hm j (by omega) (by omega)) (fun _ _ _ => rfl)
  · rw [hA8 3 (by decide)] at q
    rw [hA 84 (by decide) (by decide)]; exact (b q).fr (fun j _ _ => hm j (by omega) (by omega)) (fun _ _ _ => rfl)
  · rw [hm _ (by omega) (by omega), hm _ (by omega) (by omega)]; exact c u hu
  · rw [hm _ (by omega) (by omega), hA _ (by decide) (by decide)]; exact d j hj
  · rw [hm _ (by omega) (by omega), hA8 3 (by decide)]; exact e
  · rw [h1]; unfold vo_M; rw [va_up_ne _ _ (by decide), zu_at, upd_self]
  · rw [h2]; unfold vo_M; rw [va_up_self]; exact sp_app_cg f.2 j hj
  · rw [hm _ (by omega) (by omega), hm _ (by omega) (by omega), hA _ (by decide) (by decide), hA _ (by decide) (by decide), hA _ (by decide) (by decide)]; exact g s hs
