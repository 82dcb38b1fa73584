/-! voices: what they answer, and the bodies that begin -/
def sp_app (T : Nat → Int32) : Nat → List Int32 → (Nat → Int32)
  | _, [] => T
  | k, b :: l => sp_app (upd T k b) (k + 1) l
theorem sp_app_app {T : Nat → Int32} {k : Nat} {l1 l2 : List Int32} : sp_app (sp_app T k l1) (k + l1.length) l2 = sp_app T k (l1 ++ l2) := by
  induction l1 generalizing T k with
  | nil => rfl
  | cons b l ih =>
    show sp_app (sp_app (upd T k b) (k + 1) l) (k + (l.length + 1)) l2 = sp_app (upd T k b) (k + 1) (l ++ l2)
    rw [show k + (l.length + 1) = k + 1 + l.length by omega]
    exact ih
theorem sp_app_lt {T : Nat → Int32} {l : List Int32} : ∀ {k j : Nat}, j < k → sp_app T k l j = T j := by
  induction l generalizing T with
  | nil => intro k j h; rfl
  | cons b l ih =>
    intro k j h
    show sp_app (upd T k b) (k + 1) l j = T j
    rw [ih (by omega), upd_ne (by omega)]
theorem sp_app_at {T : Nat → Int32} {l : List Int32} : ∀ {k j : Nat}, j < l.length → sp_app T k l (k + j) = l.getD j 0 := by
  induction l generalizing T with
  | nil => intro k j h; exact absurd h (Nat.not_lt_zero _)
  | cons b l ih =>
    intro k j h
    show sp_app (upd T k b) (k + 1) l (k + j) = _
    cases j with
    | zero =>
      show sp_app (upd T k b) (k + 1) l k = b
      rw [sp_app_lt (by omega), upd_self]
    | succ j =>
      rw [show k + (j + 1) = k + 1 + j by omega, ih (by simpa using h)]
      simp
theorem upd_upd {f : Nat → Int32} {k : Nat} {v w : Int32} : upd (upd f k v) k w = upd f k w := by
  funext j; unfold upd; by_cases h : j = k <;> simp [h]
def zVo (M : zM) (k : Nat) (l : List Int32) : zM := zu (va_up M 94 (sp_app (M 94) k l)) 82 18 (nI (k + l.length))
theorem zVo_94 {M : zM} {k : Nat} {l : List Int32} : zVo M k l 94 = sp_app (M 94) k l := by
  unfold zVo; rw [zu_ne (by decide), va_up_self]
theorem zVo_82 {M : zM} {k : Nat} {l : List Int32} : zVo M k l 82 = upd (M 82) 18 (nI (k + l.length)) := by
  unfold zVo; rw [zu_at, va_up_ne _ _ (by decide)]
theorem zVo_18 {M : zM} {k : Nat} {l : List Int32} : zVo M k l 82 18 = nI (k + l.length) := by rw [zVo_82, upd_self]
theorem zVo_ne {M : zM} {k : Nat} {l : List Int32} {i : Nat} (h1 : i ≠ 82) (h2 : i ≠ 94) : zVo M k l i = M i := by
  unfold zVo; rw [zu_ne h1, va_up_ne _ _ h2]
theorem zM_ext {M M' : zM} (h : ∀ i, M i = M' i) : M = M' := funext h
theorem zVo_app {M : zM} {k k1 : Nat} {l1 l2 : List Int32} (h : k1 = k + l1.length) : zVo (zVo M k l1) k1 l2 = zVo M k (l1 ++ l2) := by
  subst h
  apply zM_ext
  intro i
  by_cases h1 : i = 82
  · subst h1
    rw [zVo_82, zVo_82, zVo_82, upd_upd]
    congr 2
    rw [List.length_append]; omega
  · by_cases h2 : i = 94
    · subst h2; rw [zVo_94, zVo_94, zVo_94, sp_app_app]
    · rw [zVo_ne h1 h2, zVo_ne h1 h2, zVo_ne h1 h2]
theorem zVo_19 {M : zM} {k : Nat} {l : List Int32} {v : Int32} : zVo (zu M 82 19 v) k l = zu (zVo M k l) 82 19 v := by
  apply zM_ext
  intro i
  by_cases h1 : i = 82
  · subst h1
    rw [zVo_82, zu_at, zu_at, zVo_82]
    funext j
    unfold upd
    by_cases a : j = 18
    · subst a; simp
    · simp [a]
  · by_cases h2 : i = 94
    · subst h2; rw [zVo_94, zu_ne (by decide), zu_ne (by decide), zVo_94]
    · rw [zVo_ne h1 h2, zu_ne h1, zu_ne h1, zVo_ne h1 h2]
def vs_ps (t : Nat) (x : Int32) : Int32 × List Int32 := (x + nI t, [10])
def vs_ns (t : Nat) (x : Int32) : Int32 × List Int32 := ((vs_ps t x).1 - 4, 20 :: (vs_ps t x).2)
def vs_s (kd : Int32) (t : Nat) (x : Int32) : Int32 × List Int32 := if kd = 1 then vs_ns t x else if kd = 4 then ((vs_ns t x).1 * 3, 50 :: (vs_ns t x).2) else if kd = 6 then (9, [70]) else vs_ps t x
def vs_pl (kd : Int32) (t : Nat) (x : Int32) : Int32 × List Int32 := ((vs_s kd t x).1 * 2, 11 :: (vs_s kd t x).2)
def vs_ll (kd : Int32) (t : Nat) (x : Int32) : Int32 × List Int32 := (-(vs_pl kd t x).1, 30 :: (vs_pl kd t x).2)
def vs_l (kd m : Int32) (t : Nat) (x : Int32) : Int32 × List Int32 := if kd = 2 then vs_ll kd t x else if kd = 5 then ((vs_ll kd t (x + 1)).1, 60 :: (vs_ll kd t (x + 1)).2) else if kd = 6 then ((vs_pl kd t x).1 + m, 71 :: (vs_pl kd t x).2) else vs_pl kd t x
def vs_pr (kd m : Int32) (t : Nat) (x : Int32) : Int32 × List Int32 := ((vs_l kd m t x).1 - m, 12 :: (vs_l kd m t x).2)
def vs_r (kd m : Int32) (t : Nat) (x : Int32) : Int32 × List Int32 := if kd = 3 then ((vs_pr kd m t (x / 2)).1, 40 :: (vs_pr kd m t (x / 2)).2) else if kd = 4 then ((vs_pr kd m t x).1 ^^^ nI t, 51 :: (vs_pr kd m t x).2) else vs_pr kd m t x
/-- parts: whether it parts by 0, the answer, the bodies -/
def vs_by (m : Int32) (t : Nat) : Int32 := m - nI t
def vs_pp (m : Int32) (t : Nat) (x : Int32) : Int32 := if vs_by m t = 0 then 0 else x / vs_by m t
def vs_p (kd m : Int32) (t : Nat) (x : Int32) : Int32 × List Int32 :=
  if kd = 1 ∨ kd = 4 then (if vs_by m t = 0 then (0, [21, 13]) else (vs_pp m t x + (vs_l kd m t 1).1, 21 :: 13 :: (vs_l kd m t 1).2)) else (vs_pp m t x, [13])
theorem vs_s_len (kd : Int32) (t : Nat) (x : Int32) : (vs_s kd t x).2.length ≤ 3 := by
  unfold vs_s; (repeat' split) <;> simp [vs_ns, vs_ps]
theorem vs_pl_len (kd : Int32) (t : Nat) (x : Int32) : (vs_pl kd t x).2.length ≤ 4 := by
  have := vs_s_len kd t x
  unfold vs_pl; simp only [List.length_cons]; omega
theorem vs_ll_len (kd : Int32) (t : Nat) (x : Int32) : (vs_ll kd t x).2.length ≤ 5 := by
  have := vs_pl_len kd t x
  unfold vs_ll; simp only [List.length_cons]; omega
theorem vs_l_len (kd m : Int32) (t : Nat) (x : Int32) : (vs_l kd m t x).2.length ≤ 6 := by
  have := vs_pl_len kd t x
  have := vs_ll_len kd t x
  have := vs_ll_len kd t (x + 1)
  unfold vs_l; (repeat' split) <;> (try simp only [List.length_cons]) <;> omega
theorem vs_pr_len (kd m : Int32) (t : Nat) (x : Int32) : (vs_pr kd m t x).2.length ≤ 7 := by
  have := vs_l_len kd m t x
  unfold vs_pr; simp only [List.length_cons]; omega
theorem vs_r_len (kd m : Int32) (t : Nat) (x : Int32) : (vs_r kd m t x).2.length ≤ 8 := by
  have := vs_pr_len kd m t x
  have := vs_pr_len kd m t (x / 2)
  unfold vs_r; (repeat' split) <;> (try simp only [List.length_cons]) <;> omega
theorem vs_p_len (kd m : Int32) (t : Nat) (x : Int32) : (vs_p kd m t x).2.length ≤ 8 := by
  have := vs_l_len kd m t 1
  unfold vs_p; (repeat' split) <;> simp only [List.length_cons, List.length_nil] <;> omega
