/-! the reader of the reference: its state -/
def zPSt (M : zM) (r : zPR) : Prop := M 82 13 = nI r.2.1 ∧ r.2.1 ≤ sp_nt (M 83) ∧ M 82 15 = (if r.1 then 0 else 1) ∧ zle (M 82 12) 60 ∧ (r.1 = true → M 82 12 = nI r.2.2.length ∧ r.2.2.length ≤ r.2.1 ∧ ∀ j, j < r.2.2.length → M 90 j = (r.2.2.getD j (0, 0)).1 ∧ M 91 j = (r.2.2.getD j (0, 0)).2)
def zPCx (M M' : zM) : Prop := (∀ i, i ≠ 82 → i ≠ 90 → i ≠ 91 → M' i = M i) ∧ (∀ k, k ≠ 12 → k ≠ 13 → k ≠ 15 → M' 82 k = M 82 k)
theorem zPCx.rf {M : zM} : zPCx M M := ⟨fun _ _ _ _ => rfl, fun _ _ _ _ => rfl⟩
theorem zPCx.tr {M M1 M2 : zM} (h : zPCx M M1) (h2 : zPCx M1 M2) : zPCx M M2 := ⟨fun i a b c => (h2.1 i a b c).trans (h.1 i a b c), fun k a b c => (h2.2 k a b c).trans (h.2 k a b c)⟩
theorem zPCx.z {M M1 : zM} {k : Nat} {v : Int32} (h : zPCx M M1) (hk : k = 12 ∨ k = 13 ∨ k = 15) : zPCx M (zu M1 82 k v) :=
  ⟨fun i a b c => by rw [zu_ne a]; exact h.1 i a b c, fun j a b c => by rw [zu_at, upd_ne (by omega)]; exact h.2 j a b c⟩
theorem zPCx.a {M M1 : zM} {k : Nat} {v : Int32} {i : Nat} (h : zPCx M M1) (hi : i = 90 ∨ i = 91) : zPCx M (zu M1 i k v) :=
  ⟨fun j a b c => by rw [zu_ne (by omega)]; exact h.1 j a b c, fun j a b c => by rw [zu_ne (by omega)]; exact h.2 j a b c⟩
def sp_step (M : zM) (w v : Int32) : zM := if zn (M 82 12) < 60 then zu (zu (zu M 90 (zn (M 82 12)) w) 91 (zn (M 82 12)) v) 82 12 (nI (zn (M 82 12) + 1)) else M
theorem zPCx.st {M M1 : zM} {w v : Int32} (h : zPCx M M1) : zPCx M (sp_step M1 w v) := by
  unfold sp_step
  split
  · exact ((h.a (Or.inl rfl)).a (Or.inr rfl)).z (Or.inl rfl)
  · exact h
theorem gd_lt {l m : List (Int32 × Int32)} {j : Nat} (h : j < l.length) : (l ++ m).getD j (0, 0) = l.getD j (0, 0) := by
  rw [List.getD_eq_getElem?_getD, List.getD_eq_getElem?_getD, List.getElem?_append_left h]
theorem gd_end {l : List (Int32 × Int32)} {x : Int32 × Int32} : (l ++ [x]).getD l.length (0, 0) = x := by
  rw [List.getD_eq_getElem?_getD, List.getElem?_append_right (Nat.le_refl _), Nat.sub_self]; rfl
theorem zPSt.st {M : zM} {r : zPR} {w v : Int32} (h : zPSt M r) (h60 : sp_nt (M 83) ≤ 60) (hr : r.1 = true → r.2.2.length < r.2.1) : zPSt (sp_step M w v) (r.1, r.2.1, r.2.2 ++ [(w, v)]) := by
  obtain ⟨h1, h2, h3, h4, h5⟩ := h
  obtain ⟨e4, l4⟩ := zle_zn (by decide) h4
  unfold sp_step
  split
  · rename_i hl
    refine ⟨?_, ?_, ?_, ?_, fun q => ?_⟩
    · rw [zu_at, upd_ne (by decide), zu_ne (by decide), zu_ne (by decide)]; exact h1
    · rw [zu_ne (by decide), zu_ne (by decide), zu_ne (by decide)]; exact h2
    · rw [zu_at, upd_ne (by decide), zu_ne (by decide), zu_ne (by decide)]; exact h3
    · rw [zu_at, upd_self]; exact ⟨_, by omega, rfl⟩
    · obtain ⟨c1, c2, c3⟩ := h5 q
      have cl := hr q
      have el : zn (M 82 12) = r.2.2.length := by rw [c1]; exact zn_nI (by omega)
      have ell : (r.2.2 ++ [(w, v)]).length = r.2.2.length + 1 := by rw [List.length_append]; rfl
      refine ⟨?_, ?_, fun j hj => ?_⟩
      · rw [zu_at, upd_self, el]; show _ = nI (r.2.2 ++ [(w, v)]).length; rw [ell]
      · show (r.2.2 ++ [(w, v)]).length ≤ r.2.1; rw [ell]; omega
      · have hj : j < (r.2.2 ++ [(w, v)]).length := hj
        rw [ell] at hj
        rw [zu_ne (by decide), zu_ne (by decide), zu_at, zu_ne (by decide), zu_at, zu_ne (by decide), el]
        show upd (M 90) _ _ j = ((r.2.2 ++ [(w, v)]).getD j (0, 0)).1 ∧ upd (M 91) _ _ j = ((r.2.2 ++ [(w, v)]).getD j (0, 0)).2
        rcases Nat.lt_or_ge j r.2.2.length with z | z
        · rw [upd_ne (by omega), upd_ne (by omega), gd_lt z]; exact c3 j z
        · obtain rfl : j = r.2.2.length := by omega
          rw [upd_self, upd_self, gd_end]
          exact ⟨rfl, rfl⟩
  · rename_i hl
    refine ⟨h1, h2, h3, h4, fun q => ?_⟩
    obtain ⟨c1, c2, c3⟩ := h5 q
    have cl := hr q
    have el : zn (M 82 12) = r.2.2.length := by rw [c1]; exact zn_nI (by omega)
    omega
theorem sp_lk_T {ρ : Nat → Int32} : ∀ h, sp_nt ρ ≤ h → sp_lk ρ h = -1 := fun h q => by unfold sp_lk; rw [if_neg (by omega)]
theorem sp_lk_lt {ρ : Nat → Int32} {h : Nat} (q : sp_lk ρ h ≠ -1) : h < sp_nt ρ := by
  rcases Nat.lt_or_ge h (sp_nt ρ) with w | w
  · exact w
  · exact absurd (sp_lk_T h w) q
theorem sp_nm_m1 (u : Nat) : sp_nm u (-1) < 0 := by
  unfold sp_nm
  (repeat' split) <;> first | decide | (rename_i q; exact absurd q (by decide))
theorem zPSt.bad {M : zM} {r : zPR} (h : zPSt M r) : zPSt (zu M 82 15 1) (false, r.2.1, r.2.2) := by
  obtain ⟨h1, h2, h3, h4, h5⟩ := h
  exact ⟨by rw [zu_at, upd_ne (by decide)]; exact h1, by rw [zu_ne (by decide)]; exact h2, by rw [zu_at, upd_self]; rfl, by rw [zu_at, upd_ne (by decide)]; exact h4, fun q => absurd q Bool.false_ne_true⟩
theorem zPSt.zu15 {M : zM} {r : zPR} (h : zPSt M r) (hr : r.1 = true) : zPSt (zu M 82 15 0) r := by
  obtain ⟨h1, h2, h3, h4, h5⟩ := h
  rw [hr, if_pos rfl] at h3
  have e : zu M 82 15 0 = M := by
    unfold zu
    rw [show upd (M 82) 15 0 = M 82 from funext fun j => by
      by_cases q : j = 15
      · subst q; rw [upd_self, h3]
      · rw [upd_ne q], va_up_id]
  rw [e]
  exact ⟨h1, h2, by rw [hr]; exact h3, h4, h5⟩
/-- one place on -/
theorem zPSt.adv {M : zM} {r : zPR} (h : zPSt M r) (hr : r.1 = true) (hlk : sp_lk (M 83) r.2.1 ≠ -1) : zPSt (zu M 82 13 (nI (r.2.1 + 1))) (true, r.2.1 + 1, r.2.2) := by
  obtain ⟨h1, h2, h3, h4, h5⟩ := h
  have hlt := sp_lk_lt hlk
  rw [hr] at h3
  refine ⟨by rw [zu_at, upd_self], by rw [zu_ne (by decide)]; exact hlt, by rw [zu_at, upd_ne (by decide)]; exact h3, by rw [zu_at, upd_ne (by decide)]; exact h4, fun _ => ?_⟩
  obtain ⟨c1, c2, c3⟩ := h5 hr
  refine ⟨by rw [zu_at, upd_ne (by decide)]; exact c1, by show r.2.2.length ≤ r.2.1 + 1; omega, fun j hj => ?_⟩
  rw [zu_ne (by decide), zu_ne (by decide)]
  exact c3 j hj
theorem zPSt.cx {M M1 : zM} {r : zPR} (h : zPSt M1 r) (hc : zPCx M M1) : r.2.1 ≤ sp_nt (M 83) := by
  have h2 := h.2.1
  rw [hc.1 83 (by decide) (by decide) (by decide)] at h2
  exact h2
def zPm (L h : Nat) : Nat := 14 * (61 - h) + 2 * (6 - L)
/-- what a method of the reader promises, whatever is left to read -/
def zPC (B : zB) (y : MethodName) (c : ByteArray) (nL L F : Nat) : Prop := ∀ (M : zM) (N : zN) (op u : Nat) (r : zPR), op ≤ 5 → u < 2 → zOkR (M 83) → M 82 14 = nI op → M 82 16 = nI u → r.1 = true → zPSt M r → zPm L r.2.1 ≤ F →
  zCv B (zg B M N) y c nL none (8 * (6 - op) + (6 - L)) [zref B 82] (fun g' => ∃ M' : zM, g' = zg B M' N ∧ zPCx M M' ∧ zPSt M' (sp_ps (sp_lk (M 83)) (sp_nm u) F L op r))
