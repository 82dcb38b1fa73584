/-! the voices of the class -/
def zWo (M : zM) (k : Nat) (l : List Int32) : zM := zu (va_up M 71 (sp_app (M 71) k l)) 70 1 (nI (k + l.length))
theorem zWo_71 {M : zM} {k : Nat} {l : List Int32} : zWo M k l 71 = sp_app (M 71) k l := by
  unfold zWo; rw [zu_ne (by decide), va_up_self]
theorem zWo_70 {M : zM} {k : Nat} {l : List Int32} : zWo M k l 70 = upd (M 70) 1 (nI (k + l.length)) := by
  unfold zWo; rw [zu_at, va_up_ne _ _ (by decide)]
theorem zWo_b {M : zM} {k : Nat} {l : List Int32} : zWo M k l 70 1 = nI (k + l.length) := by rw [zWo_70, upd_self]
theorem zWo_ne {M : zM} {k : Nat} {l : List Int32} {i : Nat} (h1 : i ≠ 70) (h2 : i ≠ 71) : zWo M k l i = M i := by
  unfold zWo; rw [zu_ne h1, va_up_ne _ _ h2]
theorem zWo_app {M : zM} {k k1 : Nat} {l1 l2 : List Int32} (h : k1 = k + l1.length) : zWo (zWo M k l1) k1 l2 = zWo M k (l1 ++ l2) := by
  subst h
  apply zM_ext
  intro i
  by_cases h1 : i = 70
  · subst h1
    rw [zWo_70, zWo_70, zWo_70, upd_upd]
    congr 2
    rw [List.length_append]; omega
  · by_cases h2 : i = 71
    · subst h2; rw [zWo_71, zWo_71, zWo_71, sp_app_app]
    · rw [zWo_ne h1 h2, zWo_ne h1 h2, zWo_ne h1 h2]
theorem zWo_p {M : zM} {k : Nat} {l : List Int32} {v : Int32} : zWo (zu M 70 2 v) k l = zu (zWo M k l) 70 2 v := by
  apply zM_ext
  intro i
  by_cases h1 : i = 70
  · subst h1
    rw [zWo_70, zu_at, zu_at, zWo_70]
    funext j
    unfold upd
    by_cases a : j = 1
    · subst a; simp
    · simp [a]
  · by_cases h2 : i = 71
    · subst h2; rw [zWo_71, zu_ne (by decide), zu_ne (by decide), zWo_71]
    · rw [zWo_ne h1 h2, zu_ne h1, zu_ne h1, zWo_ne h1 h2]
theorem zWo_o {M : zM} {k j : Nat} {l : List Int32} (h : j ≠ 1) : zWo M k l 70 j = M 70 j := by rw [zWo_70, upd_ne h]
def lw_l (fr kd m : Int32) (t : Nat) (x : Int32) : Int32 × List Int32 := if fr = 2 then vs_ll kd t x else if fr = 5 then ((vs_ll kd t (x + 1)).1, 60 :: (vs_ll kd t (x + 1)).2) else if fr = 6 then ((vs_pl kd t x).1 + m, 71 :: (vs_pl kd t x).2) else vs_pl kd t x
def lw_r (fr kd m : Int32) (t : Nat) (x : Int32) : Int32 × List Int32 := if fr = 3 then ((vs_pr kd m t (x / 2)).1, 40 :: (vs_pr kd m t (x / 2)).2) else if fr = 4 then ((vs_pr kd m t x).1 ^^^ nI t, 51 :: (vs_pr kd m t x).2) else vs_pr kd m t x
theorem lw_l_eq {kd m : Int32} {t : Nat} {x : Int32} : lw_l kd kd m t x = vs_l kd m t x := rfl
theorem lw_r_eq {kd m : Int32} {t : Nat} {x : Int32} : lw_r kd kd m t x = vs_r kd m t x := rfl
theorem lw_l_len (fr kd m : Int32) (t : Nat) (x : Int32) : (lw_l fr kd m t x).2.length ≤ 6 := by
  have := vs_pl_len kd t x
  have := vs_ll_len kd t x
  have := vs_ll_len kd t (x + 1)
  unfold lw_l; (repeat' split) <;> (try simp only [List.length_cons]) <;> omega
def zVc (kd m : Int32) (t : Nat) (M : zM) : Prop := M 70 3 = kd ∧ M 70 4 = m ∧ M 70 5 = nI t
theorem zVc.wo {kd m : Int32} {t k : Nat} {M : zM} {l : List Int32} (h : zVc kd m t M) : zVc kd m t (zWo M k l) :=
  ⟨(zWo_o (by decide)).trans h.1, (zWo_o (by decide)).trans h.2.1, (zWo_o (by decide)).trans h.2.2⟩
theorem zVc.p {kd m v : Int32} {t : Nat} {M : zM} (h : zVc kd m t M) : zVc kd m t (zu M 70 2 v) :=
  ⟨by rw [zu_at, upd_ne (by decide)]; exact h.1, by rw [zu_at, upd_ne (by decide)]; exact h.2.1, by rw [zu_at, upd_ne (by decide)]; exact h.2.2⟩
