/-! what a text that is read lays can be worked -/
def zSig (b : Int32) : Prop := b = 37 ∨ b = 38 ∨ b = 42 ∨ b = 43 ∨ b = 45 ∨ b = 47 ∨ b = 60 ∨ b = 61 ∨ b = 62 ∨ b = 124
def zTk (t : Int32 × Int32) (d d' : Nat) : Prop := (t.1 = 1 ∧ zle t.2 9999 ∧ d' = d + 1) ∨ (t.1 = 2 ∧ zle t.2 2 ∧ d' = d + 1) ∨ (t.1 = 3 ∧ 1 ≤ d ∧ d' = d) ∨ (zSig t.1 ∧ 2 ≤ d ∧ d' = d - 1)
def zSeg (d : Nat) (l : List (Int32 × Int32)) (d' : Nat) : Prop := ∃ dp : Nat → Nat, dp 0 = d ∧ (∀ k, k < l.length → zTk (l.getD k (0, 0)) (dp k) (dp (k + 1))) ∧ dp l.length = d'
theorem zSeg.nil (d : Nat) : zSeg d [] d := ⟨fun _ => d, rfl, fun k hk => absurd hk (Nat.not_lt_zero _), rfl⟩
theorem gd_ge {l m : List (Int32 × Int32)} {j : Nat} (h : l.length ≤ j) : (l ++ m).getD j (0, 0) = m.getD (j - l.length) (0, 0) := by
  rw [List.getD_eq_getElem?_getD, List.getD_eq_getElem?_getD, List.getElem?_append_right h]
theorem zSeg.app {d d1 d2 : Nat} {l m : List (Int32 × Int32)} (h : zSeg d l d1) (h2 : zSeg d1 m d2) : zSeg d (l ++ m) d2 := by
  obtain ⟨p, p0, ps, pl⟩ := h
  obtain ⟨q, q0, qs, ql⟩ := h2
  have ell : (l ++ m).length = l.length + m.length := List.length_append
  refine ⟨fun k => if k ≤ l.length then p k else q (k - l.length), by show (if 0 ≤ l.length then p 0 else _) = _; rw [if_pos (Nat.zero_le _)]; exact p0, fun k hk => ?_, ?_⟩
  · rw [ell] at hk
    show zTk _ (if k ≤ l.length then p k else q (k - l.length)) (if k + 1 ≤ l.length then p (k + 1) else q (k + 1 - l.length))
    rcases Nat.lt_or_ge k l.length with z | z
    · rw [gd_lt z, if_pos (by omega), if_pos (by omega)]; exact ps k z
    · rw [gd_ge z, if_neg (show ¬ k + 1 ≤ l.length by omega)]
      have h3 := qs (k - l.length) (by omega)
      have e1 : k + 1 - l.length = k - l.length + 1 := by omega
      rw [e1]
      by_cases w : k = l.length
      · subst w
        rw [if_pos (Nat.le_refl _), pl]
        rw [Nat.sub_self, q0] at h3
        rw [Nat.sub_self]; exact h3
      · rw [if_neg (by omega)]; exact h3
  · show (if (l ++ m).length ≤ l.length then p (l ++ m).length else q ((l ++ m).length - l.length)) = d2
    rw [ell]
    by_cases w : m.length = 0
    · rw [w] at ql
      rw [if_pos (by omega), w, Nat.add_zero, pl, ← q0]; exact ql
    · rw [if_neg (by omega), Nat.add_sub_cancel_left]; exact ql
theorem zSeg.one {d d' : Nat} {t : Int32 × Int32} (h : zTk t d d') : zSeg d [t] d' := by
  refine ⟨fun k => if k = 0 then d else d', rfl, fun k hk => ?_, rfl⟩
  have hk : k < 1 := hk
  obtain rfl : k = 0 := by omega
  exact h
theorem zSeg.snoc {d d1 d2 : Nat} {l : List (Int32 × Int32)} {t : Int32 × Int32} (h : zSeg d l d1) (ht : zTk t d1 d2) : zSeg d (l ++ [t]) d2 := h.app (zSeg.one ht)
theorem sp_num_nat {lk : Nat → Int32} (h255 : ∀ h, ¬ zin (lk h) 48 57 = 0 → ∃ c : Nat, 48 ≤ c ∧ c ≤ 57 ∧ lk h = nI c) : ∀ n h x, ∃ x' : Nat, (sp_num lk n h (nI x)).2 = nI x' ∧ x' + 1 ≤ (x + 1) * 10 ^ n
  | 0, h, x => ⟨x, rfl, by rw [Nat.pow_zero, Nat.mul_one]; exact Nat.le_refl _⟩
  | n + 1, h, x => by
    unfold sp_num
    by_cases q : zin (lk h) 48 57 = 0
    · rw [if_pos q]
      refine ⟨x, rfl, ?_⟩
      have : 1 ≤ 10 ^ (n + 1) := Nat.pow_pos (by decide)
      exact Nat.le_mul_of_pos_right _ this
    · rw [if_neg q]
      obtain ⟨c, c1, c2, e⟩ := h255 h q
      have e2 : 10 * nI x + lk h - 48 = nI (10 * x + c - 48) := zn_sub (b := 48) (zn_add (zn_mul (a := 10) rfl rfl) e) rfl (by omega)
      rw [e2]
      obtain ⟨x', e3, h3⟩ := sp_num_nat h255 n (h + 1) (10 * x + c - 48)
      refine ⟨x', e3, ?_⟩
      rw [Nat.pow_succ]
      have h4 : 10 * x + c - 48 + 1 ≤ (x + 1) * 10 := by omega
      calc x' + 1 ≤ (10 * x + c - 48 + 1) * 10 ^ n := h3
        _ ≤ (x + 1) * 10 * 10 ^ n := Nat.mul_le_mul_right _ h4
        _ = (x + 1) * (10 ^ n * 10) := by rw [Nat.mul_assoc, Nat.mul_comm 10]
theorem sp_jo_sig {L : Nat} {b : Int32} (hjo : sp_jo L b = true) : zSig b := by
  unfold sp_jo at hjo
  by_cases h0 : L = 0
  · rw [if_pos h0] at hjo
    rw [of_decide_eq_true hjo]; unfold zSig; decide
  rw [if_neg h0] at hjo
  by_cases h1 : L = 1
  · rw [if_pos h1] at hjo
    rw [of_decide_eq_true hjo]; unfold zSig; decide
  rw [if_neg h1] at hjo
  by_cases h2 : L = 2
  · rw [if_pos h2] at hjo
    rcases of_decide_eq_true hjo with w | w | w <;> (rw [w]; unfold zSig; decide)
  rw [if_neg h2] at hjo
  by_cases h3 : L = 3
  · rw [if_pos h3] at hjo
    rcases of_decide_eq_true hjo with w | w <;> (rw [w]; unfold zSig; decide)
  rw [if_neg h3] at hjo
  rcases of_decide_eq_true hjo with w | w | w <;> (rw [w]; unfold zSig; decide)
theorem zin_dig {x : Int32} (h : ¬ zin x 48 57 = 0) : ∃ c : Nat, 48 ≤ c ∧ c ≤ 57 ∧ x = nI c := zin_rng (lo := 48) (n := 57) rfl rfl (by decide) h
theorem sp_ps_seg {lk : Nat → Int32} {nm : Int32 → Int32} (hn : ∀ b, ¬ nm b < 0 → zle (nm b) 2) : ∀ (F m op : Nat) (r : zPR), m ≤ 10 → (sp_ps lk nm F m op r).1 = true → ∃ seg, (sp_ps lk nm F m op r).2.2 = r.2.2 ++ seg ∧ (m ≤ 5 → ∀ d, zSeg d seg (d + 1)) ∧ (6 ≤ m → ∀ d, 1 ≤ d → zSeg d seg d) := by
  intro F
  induction F with
  | zero => intro m op r _ h; exact absurd h Bool.false_ne_true
  | succ F ih =>
    intro m op r hm10 h
    rcases Nat.lt_or_ge m 5 with hm | hm
    · rw [sp_ps_lv hm] at h ⊢
      have hl : (sp_ps lk nm F (m + 1) op r).1 = true := by
        cases F with
        | zero => exact absurd h Bool.false_ne_true
        | succ F =>
          cases hq : (sp_ps lk nm (F + 1) (m + 1) op r).1 with
          | true => rfl
          | false => rw [sp_ps_b (by omega) hq] at h; exact absurd (hq.symm.trans h) Bool.false_ne_true
      obtain ⟨s1, e1, f1, -⟩ := ih (m + 1) op r (by omega) hl
      obtain ⟨s2, e2, -, f2⟩ := ih (6 + m) op _ (by omega) h
      refine ⟨s1 ++ s2, by rw [e2, e1, List.append_assoc], fun _ d => (f1 (by omega) d).app (f2 (by omega) (d + 1) (by omega)), fun w => by omega⟩
    · rcases Nat.eq_or_lt_of_le hm with e5 | h6
      · subst e5
        rw [sp_ps_q] at h ⊢
        by_cases n1 : nm (lk r.2.1) < 0
        · rw [if_pos n1] at h ⊢
          by_cases n2 : lk r.2.1 = 33
          · rw [if_pos n2] at h ⊢
            by_cases n3 : op = 5
            · rw [if_pos n3] at h; exact absurd h Bool.false_ne_true
            · rw [if_neg n3] at h ⊢
              obtain ⟨s1, e1, f1, -⟩ := ih 5 (op + 1) (true, r.2.1 + 1, r.2.2) (by omega) h
              refine ⟨s1 ++ [(3, 0)], ?_, fun _ d => zSeg.snoc (f1 (by omega) d) (Or.inr (Or.inr (Or.inl ⟨rfl, by omega, rfl⟩))), fun w => by omega⟩
              show _ ++ [(3, 0)] = _
              rw [e1, List.append_assoc]
          · rw [if_neg n2] at h ⊢
            by_cases n4 : lk r.2.1 = 40
            · rw [if_pos n4] at h ⊢
              by_cases n3 : op = 5
              · rw [if_pos n3] at h; exact absurd h Bool.false_ne_true
              · rw [if_neg n3] at h ⊢
                unfold sp_cl at h ⊢
                split at h
                · rename_i w
                  rw [if_pos w]
                  rw [Bool.and_eq_true] at w
                  obtain ⟨s1, e1, f1, -⟩ := ih 0 (op + 1) (true, r.2.1 + 1, r.2.2) (by omega) w.1
                  exact ⟨s1, e1, fun _ d => f1 (by omega) d, fun w => by omega⟩
                · exact absurd h Bool.false_ne_true
            · rw [if_neg n4] at h ⊢
              unfold sp_no at h ⊢
              split at h
              · exact absurd h Bool.false_ne_true
              · rename_i w
                rw [if_neg w]
                obtain ⟨x', e3, h3⟩ := sp_num_nat (lk := lk) (fun h q => zin_dig q) 4 r.2.1 0
                refine ⟨_, rfl, fun _ d => zSeg.one (Or.inl ⟨rfl, ⟨x', by omega, e3⟩, rfl⟩), fun w => by omega⟩
        · rw [if_neg n1]
          exact ⟨_, rfl, fun _ d => zSeg.one (Or.inr (Or.inl ⟨rfl, hn _ n1, rfl⟩)), fun w => by omega⟩
      · cases hr : r.1 with
        | false => rw [sp_ps_b h6 hr] at h; exact absurd (hr.symm.trans h) Bool.false_ne_true
        | true =>
          cases hj : sp_jo (m - 6) (lk r.2.1) with
          | false => rw [sp_ps_n h6 hj]; exact ⟨[], by rw [List.append_nil], fun w => by omega, fun _ d _ => zSeg.nil d⟩
          | true =>
            by_cases h8 : m = 8
            · subst h8
              rw [sp_ps_8 hr hj] at h ⊢
              obtain ⟨s1, e1, f1, -⟩ := ih 3 op (true, r.2.1 + 1, r.2.2) (by omega) h
              refine ⟨s1 ++ [(lk r.2.1, 0)], ?_, fun w => by omega, fun _ d hd => zSeg.snoc (f1 (by omega) d) (Or.inr (Or.inr (Or.inr ⟨sp_jo_sig hj, by omega, rfl⟩)))⟩
              show _ ++ [(lk r.2.1, 0)] = _
              rw [e1, List.append_assoc]
            · rw [sp_ps_y h6 h8 hr hj] at h ⊢
              obtain ⟨s2, e2, -, f2⟩ := ih m op _ hm10 h
              have hq : (sp_ps lk nm F (m - 5) op (true, r.2.1 + 1, r.2.2)).1 = true := by
                cases F with
                | zero => exact absurd h Bool.false_ne_true
                | succ F =>
                  cases hq : (sp_ps lk nm (F + 1) (m - 5) op (true, r.2.1 + 1, r.2.2)).1 with
                  | true => rfl
                  | false => rw [sp_ps_b h6 (show (sp_ap _ (sp_ps lk nm (F + 1) (m - 5) op (true, r.2.1 + 1, r.2.2))).1 = false from hq)] at h; exact absurd (hq.symm.trans h) Bool.false_ne_true
              obtain ⟨s1, e1, f1, -⟩ := ih (m - 5) op (true, r.2.1 + 1, r.2.2) (by omega) hq
              refine ⟨s1 ++ [(lk r.2.1, 0)] ++ s2, ?_, fun w => by omega, fun _ d hd => (zSeg.snoc (f1 (by omega) d) (Or.inr (Or.inr (Or.inr ⟨sp_jo_sig hj, by omega, rfl⟩)))).app (f2 h6 _ (by omega))⟩
              rw [e2]
              show _ ++ [(lk r.2.1, 0)] ++ s2 = _
              rw [e1, List.append_assoc, List.append_assoc, List.append_assoc]
