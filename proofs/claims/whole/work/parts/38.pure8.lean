/-! texts read: what they are, and their faults -/
abbrev zPR := Bool × Nat × List (Int32 × Int32)
def sp_lk (ρ : Nat → Int32) (h : Nat) : Int32 := if h < sp_nt ρ then ρ (198 + h) else -1
def sp_nm (u : Nat) (b : Int32) : Int32 := if u = 0 then (if b = 97 then 0 else if b = 112 then 1 else if b = 107 then 2 else -1) else (if b = 99 then 0 else if b = 98 then 1 else if b = 100 then 2 else -1)
def sp_jo (L : Nat) (b : Int32) : Bool := if L = 0 then decide (b = 124) else if L = 1 then decide (b = 38) else if L = 2 then decide (b = 60 ∨ b = 61 ∨ b = 62) else if L = 3 then decide (b = 43 ∨ b = 45) else decide (b = 42 ∨ b = 47 ∨ b = 37)
def sp_num (lk : Nat → Int32) : Nat → Nat → Int32 → Nat × Int32
  | 0, h, v => (h, v)
  | n + 1, h, v => if zin (lk h) 48 57 = 0 then (h, v) else sp_num lk n (h + 1) (10 * v + lk h - 48)
def sp_ap (b : Int32) (q : zPR) : zPR := (q.1, q.2.1, q.2.2 ++ [(b, 0)])
def sp_cl (lk : Nat → Int32) (q : zPR) : zPR := if q.1 && decide (lk q.2.1 = 41) then (true, q.2.1 + 1, q.2.2) else (false, q.2.1, q.2.2)
def sp_no (lk : Nat → Int32) (r : zPR) : zPR := if (sp_num lk 4 r.2.1 0).1 = r.2.1 then (false, r.2.1, r.2.2) else (true, (sp_num lk 4 r.2.1 0).1, r.2.2 ++ [(1, (sp_num lk 4 r.2.1 0).2)])
def sp_ps (lk : Nat → Int32) (nm : Int32 → Int32) : Nat → Nat → Nat → zPR → zPR
  | 0, _, _, r => (false, r.2.1, r.2.2)
  | F + 1, m, op, r =>
    if m < 5 then sp_ps lk nm F (6 + m) op (sp_ps lk nm F (m + 1) op r)
    else if m = 5 then
      (if nm (lk r.2.1) < 0 then
        (if lk r.2.1 = 33 then (if op = 5 then (false, r.2.1, r.2.2) else sp_ap 3 (sp_ps lk nm F 5 (op + 1) (true, r.2.1 + 1, r.2.2)))
         else if lk r.2.1 = 40 then (if op = 5 then (false, r.2.1, r.2.2) else sp_cl lk (sp_ps lk nm F 0 (op + 1) (true, r.2.1 + 1, r.2.2)))
         else sp_no lk r)
       else (true, r.2.1 + 1, r.2.2 ++ [(2, nm (lk r.2.1))]))
    else if r.1 && sp_jo (m - 6) (lk r.2.1) then
      (if m = 8 then sp_ap (lk r.2.1) (sp_ps lk nm F (m - 5) op (true, r.2.1 + 1, r.2.2))
       else sp_ps lk nm F m op (sp_ap (lk r.2.1) (sp_ps lk nm F (m - 5) op (true, r.2.1 + 1, r.2.2))))
    else r
theorem sp_ps_lv {lk : Nat → Int32} {nm : Int32 → Int32} {F m op : Nat} {r : zPR} (h : m < 5) : sp_ps lk nm (F + 1) m op r = sp_ps lk nm F (6 + m) op (sp_ps lk nm F (m + 1) op r) := by
  rw [sp_ps, if_pos h]
theorem sp_ps_q {lk : Nat → Int32} {nm : Int32 → Int32} {F op : Nat} {r : zPR} : sp_ps lk nm (F + 1) 5 op r = (if nm (lk r.2.1) < 0 then
        (if lk r.2.1 = 33 then (if op = 5 then (false, r.2.1, r.2.2) else sp_ap 3 (sp_ps lk nm F 5 (op + 1) (true, r.2.1 + 1, r.2.2)))
         else if lk r.2.1 = 40 then (if op = 5 then (false, r.2.1, r.2.2) else sp_cl lk (sp_ps lk nm F 0 (op + 1) (true, r.2.1 + 1, r.2.2)))
         else sp_no lk r)
       else (true, r.2.1 + 1, r.2.2 ++ [(2, nm (lk r.2.1))])) := by
  rw [sp_ps, if_neg (by decide), if_pos rfl]
theorem sp_ps_y {lk : Nat → Int32} {nm : Int32 → Int32} {F m op : Nat} {r : zPR} (h : 6 ≤ m) (h8 : m ≠ 8) (hr : r.1 = true) (hj : sp_jo (m - 6) (lk r.2.1) = true) : sp_ps lk nm (F + 1) m op r = sp_ps lk nm F m op (sp_ap (lk r.2.1) (sp_ps lk nm F (m - 5) op (true, r.2.1 + 1, r.2.2))) := by
  rw [sp_ps, if_neg (by omega), if_neg (by omega), hr, hj, if_pos (by decide), if_neg h8]
theorem sp_ps_8 {lk : Nat → Int32} {nm : Int32 → Int32} {F op : Nat} {r : zPR} (hr : r.1 = true) (hj : sp_jo 2 (lk r.2.1) = true) : sp_ps lk nm (F + 1) 8 op r = sp_ap (lk r.2.1) (sp_ps lk nm F 3 op (true, r.2.1 + 1, r.2.2)) := by
  rw [sp_ps, if_neg (by omega), if_neg (by omega), hr, hj, if_pos (by decide), if_pos rfl]
theorem sp_ps_n {lk : Nat → Int32} {nm : Int32 → Int32} {F m op : Nat} {r : zPR} (h : 6 ≤ m) (hj : sp_jo (m - 6) (lk r.2.1) = false) : sp_ps lk nm (F + 1) m op r = r := by
  rw [sp_ps, if_neg (by omega), if_neg (by omega), hj, Bool.and_false, if_neg (by decide)]
theorem sp_ps_b {lk : Nat → Int32} {nm : Int32 → Int32} {F m op : Nat} {r : zPR} (h : 6 ≤ m) (hr : r.1 = false) : sp_ps lk nm (F + 1) m op r = r := by
  rw [sp_ps, if_neg (by omega), if_neg (by omega), hr, Bool.false_and, if_neg (by decide)]
theorem sp_num_ge {lk : Nat → Int32} : ∀ n h v, h ≤ (sp_num lk n h v).1
  | 0, h, v => Nat.le_refl h
  | n + 1, h, v => by
    unfold sp_num
    split
    · exact Nat.le_refl h
    · exact Nat.le_trans (Nat.le_succ h) (sp_num_ge n (h + 1) _)
theorem sp_num_T {lk : Nat → Int32} {T : Nat} (hT : ∀ h, T ≤ h → lk h = -1) : ∀ n h v, h ≤ T → (sp_num lk n h v).1 ≤ T
  | 0, h, v, e => e
  | n + 1, h, v, e => by
    unfold sp_num
    split
    · exact e
    · rename_i q
      refine sp_num_T hT n (h + 1) _ ?_
      rcases Nat.lt_or_ge h T with w | w
      · exact w
      · rw [hT h w] at q; exact absurd (by decide) q
theorem sp_jo_m1 {L : Nat} : sp_jo L (-1) = false := by
  unfold sp_jo
  (repeat' split) <;> decide
/-- where a text ends, how many steps it lays -/
theorem sp_ps_inv {lk : Nat → Int32} {nm : Int32 → Int32} {T : Nat} (hT : ∀ h, T ≤ h → lk h = -1) (hn : nm (-1) < 0) : ∀ (F m op : Nat) (r : zPR), r.2.1 ≤ T → r.2.1 ≤ (sp_ps lk nm F m op r).2.1 ∧ (sp_ps lk nm F m op r).2.1 ≤ T ∧ ((sp_ps lk nm F m op r).1 = true → (6 ≤ m → r.1 = true) ∧ (sp_ps lk nm F m op r).2.2.length + r.2.1 ≤ r.2.2.length + (sp_ps lk nm F m op r).2.1) := by
  intro F
  induction F with
  | zero => intro m op r h; exact ⟨Nat.le_refl _, h, fun q => absurd q Bool.false_ne_true⟩
  | succ F ih =>
    intro m op r h
    have hlt : lk r.2.1 ≠ -1 → r.2.1 + 1 ≤ T := fun q => by
      rcases Nat.lt_or_ge r.2.1 T with w | w
      · exact w
      · exact absurd (hT _ w) q
    rcases Nat.lt_or_ge m 5 with hm | hm
    · rw [sp_ps_lv hm]
      obtain ⟨a1, a2, a3⟩ := ih (m + 1) op r h
      obtain ⟨b1, b2, b3⟩ := ih (6 + m) op (sp_ps lk nm F (m + 1) op r) a2
      refine ⟨by omega, b2, fun q => ⟨fun w => by omega, ?_⟩⟩
      obtain ⟨c1, c2⟩ := b3 q
      have c3 := (a3 (c1 (by omega))).2
      omega
    · rcases Nat.eq_or_lt_of_le hm with e5 | h6
      · subst e5
        rw [sp_ps_q]
        by_cases n1 : nm (lk r.2.1) < 0
        · rw [if_pos n1]
          by_cases n2 : lk r.2.1 = 33
          · rw [if_pos n2]
            by_cases n3 : op = 5
            · rw [if_pos n3]; exact ⟨Nat.le_refl _, h, fun q => absurd q Bool.false_ne_true⟩
            · rw [if_neg n3]
              have h2 := hlt (by rw [n2]; decide)
              obtain ⟨a1, a2, a3⟩ := ih 5 (op + 1) (true, r.2.1 + 1, r.2.2) h2
              generalize sp_ps lk nm F 5 (op + 1) (true, r.2.1 + 1, r.2.2) = q9 at a1 a2 a3 ⊢
              have a1 : r.2.1 + 1 ≤ q9.2.1 := a1
              refine ⟨Nat.le_trans (Nat.le_succ _) a1, a2, fun q => ⟨fun w => by omega, ?_⟩⟩
              have c : q9.2.2.length + (r.2.1 + 1) ≤ r.2.2.length + q9.2.1 := (a3 q).2
              show (q9.2.2 ++ [(3, 0)]).length + r.2.1 ≤ r.2.2.length + q9.2.1
              rw [List.length_append]
              show q9.2.2.length + 1 + r.2.1 ≤ _
              omega
          · rw [if_neg n2]
            by_cases n4 : lk r.2.1 = 40
            · rw [if_pos n4]
              by_cases n3 : op = 5
              · rw [if_pos n3]; exact ⟨Nat.le_refl _, h, fun q => absurd q Bool.false_ne_true⟩
              · rw [if_neg n3]
                have h2 := hlt (by rw [n4]; decide)
                obtain ⟨a1, a2, a3⟩ := ih 0 (op + 1) (true, r.2.1 + 1, r.2.2) h2
                generalize sp_ps lk nm F 0 (op + 1) (true, r.2.1 + 1, r.2.2) = q9 at a1 a2 a3 ⊢
                have a1 : r.2.1 + 1 ≤ q9.2.1 := a1
                unfold sp_cl
                split
                · rename_i w
                  rw [Bool.and_eq_true, decide_eq_true_iff] at w
                  have c : q9.2.2.length + (r.2.1 + 1) ≤ r.2.2.length + q9.2.1 := (a3 w.1).2
                  refine ⟨?_, ?_, fun q => ⟨fun w => by omega, ?_⟩⟩
                  · show r.2.1 ≤ q9.2.1 + 1; omega
                  · show q9.2.1 + 1 ≤ T
                    rcases Nat.lt_or_ge q9.2.1 T with z | z
                    · exact z
                    · rw [hT _ z] at w; exact absurd w.2 (by decide)
                  · show q9.2.2.length + r.2.1 ≤ r.2.2.length + (q9.2.1 + 1)
                    omega
                · exact ⟨Nat.le_trans (Nat.le_succ _) a1, a2, fun q => absurd q Bool.false_ne_true⟩
            · rw [if_neg n4]
              unfold sp_no
              split
              · exact ⟨Nat.le_refl _, h, fun q => absurd q Bool.false_ne_true⟩
              · rename_i w
                have g1 := sp_num_ge (lk := lk) 4 r.2.1 0
                have g2 := sp_num_T hT 4 r.2.1 0 h
                refine ⟨g1, g2, fun q => ⟨fun w => by omega, ?_⟩⟩
                show (r.2.2 ++ [(1, (sp_num lk 4 r.2.1 0).2)]).length + r.2.1 ≤ r.2.2.length + (sp_num lk 4 r.2.1 0).1
                rw [List.length_append]
                show r.2.2.length + 1 + r.2.1 ≤ _
                omega
        · rw [if_neg n1]
          have h2 := hlt (fun q => by rw [q] at n1; exact n1 hn)
          refine ⟨Nat.le_succ _, h2, fun q => ⟨fun w => by omega, ?_⟩⟩
          show (r.2.2 ++ [(2, nm (lk r.2.1))]).length + r.2.1 ≤ r.2.2.length + (r.2.1 + 1)
          rw [List.length_append]
          show r.2.2.length + 1 + r.2.1 ≤ _
          omega
      · cases hr : r.1 with
        | false =>
          rw [sp_ps_b h6 hr]; exact ⟨Nat.le_refl _, h, fun q => absurd (hr.symm.trans q) (by decide)⟩
        | true =>
          cases hj : sp_jo (m - 6) (lk r.2.1) with
          | false => rw [sp_ps_n h6 hj]; exact ⟨Nat.le_refl _, h, fun q => ⟨fun _ => rfl, by omega⟩⟩
          | true =>
            have h2 := hlt (fun q => by rw [q, sp_jo_m1] at hj; exact absurd hj (by decide))
            obtain ⟨a1, a2, a3⟩ := ih (m - 5) op (true, r.2.1 + 1, r.2.2) h2
            by_cases h8 : m = 8
            · subst h8
              rw [sp_ps_8 hr hj]
              have e3 : 8 - 5 = 3 := rfl
              rw [e3] at a1 a2 a3
              generalize sp_ps lk nm F 3 op (true, r.2.1 + 1, r.2.2) = q9 at a1 a2 a3 ⊢
              have a1 : r.2.1 + 1 ≤ q9.2.1 := a1
              refine ⟨Nat.le_trans (Nat.le_succ _) a1, a2, fun q => ⟨fun _ => rfl, ?_⟩⟩
              have c : q9.2.2.length + (r.2.1 + 1) ≤ r.2.2.length + q9.2.1 := (a3 q).2
              show (q9.2.2 ++ [(lk r.2.1, 0)]).length + r.2.1 ≤ r.2.2.length + q9.2.1
              rw [List.length_append]
              show q9.2.2.length + 1 + r.2.1 ≤ _
              omega
            · rw [sp_ps_y h6 h8 hr hj]
              generalize sp_ps lk nm F (m - 5) op (true, r.2.1 + 1, r.2.2) = q9 at a1 a2 a3 ⊢
              have a1 : r.2.1 + 1 ≤ q9.2.1 := a1
              obtain ⟨b1, b2, b3⟩ := ih m op (sp_ap (lk r.2.1) q9) a2
              generalize sp_ps lk nm F m op (sp_ap (lk r.2.1) q9) = p9 at b1 b2 b3 ⊢
              have b1 : q9.2.1 ≤ p9.2.1 := b1
              refine ⟨by omega, b2, fun q => ⟨fun _ => rfl, ?_⟩⟩
              obtain ⟨c1, c2⟩ := b3 q
              have c : q9.2.2.length + (r.2.1 + 1) ≤ r.2.2.length + q9.2.1 := (a3 (c1 (by omega))).2
              have c2 : p9.2.2.length + q9.2.1 ≤ (q9.2.2 ++ [(lk r.2.1, 0)]).length + p9.2.1 := c2
              rw [List.length_append] at c2
              have c2 : p9.2.2.length + q9.2.1 ≤ q9.2.2.length + 1 + p9.2.1 := c2
              omega
