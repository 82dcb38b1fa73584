/-! the reader of the reference: ends of its methods -/
theorem zu_zu {M : zM} {i k : Nat} {v w : Int32} : zu (zu M i k v) i k w = zu M i k w := by
  unfold zu
  rw [va_up_twice, va_up_self, upd_upd]
theorem zPSt.to {M : zM} {r : zPR} {h' : Nat} (h : zPSt M r) (hr : r.1 = true) (h1 : r.2.1 ≤ h') (h2 : h' ≤ sp_nt (M 83)) : zPSt (zu M 82 13 (nI h')) (true, h', r.2.2) := by
  obtain ⟨a1, a2, a3, a4, a5⟩ := h
  rw [hr] at a3
  refine ⟨by rw [zu_at, upd_self], by rw [zu_ne (by decide)]; exact h2, by rw [zu_at, upd_ne (by decide)]; exact a3, by rw [zu_at, upd_ne (by decide)]; exact a4, fun _ => ?_⟩
  obtain ⟨c1, c2, c3⟩ := a5 hr
  refine ⟨by rw [zu_at, upd_ne (by decide)]; exact c1, by show r.2.2.length ≤ h'; omega, fun j hj => ?_⟩
  rw [zu_ne (by decide), zu_ne (by decide)]
  exact c3 j hj
theorem zPSt.any {M : zM} {h : Nat} {t t' : List (Int32 × Int32)} (a : zPSt M (false, h, t)) : zPSt M (false, h, t') :=
  ⟨a.1, a.2.1, a.2.2.1, a.2.2.2.1, fun q => absurd q Bool.false_ne_true⟩
theorem zPSt.f14 {M : zM} {r : zPR} {v : Int32} (h : zPSt M r) : zPSt (zu M 82 14 v) r := by
  obtain ⟨a1, a2, a3, a4, a5⟩ := h
  refine ⟨by rw [zu_at, upd_ne (by decide)]; exact a1, by rw [zu_ne (by decide)]; exact a2, by rw [zu_at, upd_ne (by decide)]; exact a3, by rw [zu_at, upd_ne (by decide)]; exact a4, fun q => ?_⟩
  obtain ⟨c1, c2, c3⟩ := a5 q
  refine ⟨by rw [zu_at, upd_ne (by decide)]; exact c1, c2, fun j hj => ?_⟩
  rw [zu_ne (by decide), zu_ne (by decide)]
  exact c3 j hj
theorem zPSt.same {M : zM} {r : zPR} (h : zPSt M r) : zPSt (zu M 82 13 (nI (r.2.1 + 0))) r := by
  have e : zu M 82 13 (nI (r.2.1 + 0)) = M := by
    unfold zu
    rw [show upd (M 82) 13 (nI (r.2.1 + 0)) = M 82 from funext fun j => by
      by_cases q : j = 13
      · subst q; rw [upd_self, h.1]; rfl
      · rw [upd_ne q], va_up_id]
  rw [e]; exact h
theorem zPCx.bk {M M4 : zM} {v w x : Int32} (h : zPCx (zu (zu M 82 14 v) 82 13 w) M4) (e : M 82 14 = x) : zPCx M (zu M4 82 14 x) := by
  refine ⟨fun i a b c => ?_, fun k a b c => ?_⟩
  · rw [zu_ne a, h.1 i a b c, zu_ne a, zu_ne a]
  · rw [zu_at]
    by_cases q : k = 14
    · subst q; rw [upd_self, e]
    · rw [upd_ne q, h.2 k a b c, zu_at, upd_ne b, zu_at, upd_ne q]
theorem no_end {M : zM} {r : zPR} {k : Nat} {v : Int32} (hs : zPSt M r) (hr : r.1 = true) (h60 : sp_nt (M 83) ≤ 60) (hT : r.2.1 + k ≤ sp_nt (M 83)) (e : sp_num (sp_lk (M 83)) 4 r.2.1 0 = (r.2.1 + k, v)) : zPSt (sp_step (zu (zu M 82 13 (nI (r.2.1 + k))) 82 15 (if k = 0 then 1 else 0)) 1 v) (sp_no (sp_lk (M 83)) r) := by
  have h1 := hs.to hr (Nat.le_add_right _ k) hT
  unfold sp_no
  rw [e]
  by_cases hk : k = 0
  · subst hk
    rw [if_pos rfl, if_pos (show r.2.1 + 0 = r.2.1 from rfl)]
    exact ((h1.bad).st (by rw [zu_ne (by decide), zu_ne (by decide)]; exact h60) (fun q => absurd q Bool.false_ne_true)).any
  · rw [if_neg hk, if_neg (show ¬ r.2.1 + k = r.2.1 by omega)]
    have l0 := (hs.2.2.2.2 hr).2.1
    exact (h1.zu15 rfl).st (by rw [zu_ne (by decide), zu_ne (by decide)]; exact h60) (fun q => by show r.2.2.length < r.2.1 + k; omega)
/-- what opens reads -/
def sp_opn (lk : Nat → Int32) (nm : Int32 → Int32) (F op : Nat) (v : Int32) (r : zPR) : zPR :=
  if op = 5 then (false, r.2.1, r.2.2) else if v = 33 then sp_ap 3 (sp_ps lk nm F 5 (op + 1) (true, r.2.1 + 1, r.2.2)) else sp_cl lk (sp_ps lk nm F 0 (op + 1) (true, r.2.1 + 1, r.2.2))
theorem opn_st {M M3 : zM} {u F m op : Nat} {r : zPR} (hs : zPSt M r) (hr : r.1 = true) (hlk : sp_lk (M 83) r.2.1 ≠ -1) (h60 : sp_nt (M 83) ≤ 60) (e83 : M3 83 = M 83) (b : Int32)
    (h3 : zPSt M3 (sp_ps (sp_lk (M 83)) (sp_nm u) F m op (true, r.2.1 + 1, r.2.2))) : zPSt (sp_step M3 b 0) (sp_ap b (sp_ps (sp_lk (M 83)) (sp_nm u) F m op (true, r.2.1 + 1, r.2.2))) ∧ r.2.1 + 1 ≤ (sp_ps (sp_lk (M 83)) (sp_nm u) F m op (true, r.2.1 + 1, r.2.2)).2.1 := by
  have hlt := sp_lk_lt hlk
  have hi := sp_ps_inv (nm := sp_nm u) (fun h q => sp_lk_T h q) (sp_nm_m1 u) F m op (true, r.2.1 + 1, r.2.2) hlt
  generalize sp_ps (sp_lk (M 83)) (sp_nm u) F m op (true, r.2.1 + 1, r.2.2) = q9 at h3 hi ⊢
  have l0 := (hs.2.2.2.2 hr).2.1
  refine ⟨h3.st (by rw [e83]; exact h60) (fun q => ?_), hi.1⟩
  have c : q9.2.2.length + (r.2.1 + 1) ≤ r.2.2.length + q9.2.1 := (hi.2.2 q).2
  omega
