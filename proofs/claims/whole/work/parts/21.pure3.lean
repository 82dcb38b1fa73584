/-! laws as steps on a pile -/
theorem zn_dec {x : Int32} {a : Nat} (hx : x = nI a) (h : 1 ≤ a) : x + Int32.ofInt (-1) = nI (a - 1) := by
  rw [hx]
  obtain ⟨b, rfl⟩ : ∃ b, a = b + 1 := ⟨a - 1, by omega⟩
  rw [nI_succ, Int32.add_assoc, show (1 : Int32) + Int32.ofInt (-1) = 0 by decide, Int32.add_zero]
  rfl
def zPl (P : Nat → Int32) (l : List Int32) : Prop := ∀ j, j < l.length → P (l.length - 1 - j) = l.getD j 0
theorem zPl_push {P : Nat → Int32} {l : List Int32} {n : Nat} (h : zPl P l) (hl : l.length = n) (v : Int32) : zPl (upd P n v) (v :: l) := by
  intro j hj
  subst hl
  cases j with
  | zero => simp [upd]
  | succ j =>
    have hj' : j < l.length := by simpa using hj
    have e : (v :: l).length - 1 - (j + 1) = l.length - 1 - j := by simp only [List.length_cons]; omega
    rw [e, upd_ne (by omega), h j hj']
    simp
theorem zPl_pop {P : Nat → Int32} {x : Int32} {t : List Int32} (h : zPl P (x :: t)) : P t.length = x ∧ zPl P t := by
  refine ⟨?_, fun j hj => ?_⟩
  · have h1 := h 0 (by simp)
    simpa using h1
  · have h1 := h (j + 1) (by simpa using hj)
    have e : (x :: t).length - 1 - (j + 1) = t.length - 1 - j := by simp only [List.length_cons]; omega
    rw [e] at h1
    rw [h1]
    simp
theorem zPl_one {P : Nat → Int32} {l : List Int32} {n : Nat} (h : zPl P l) (hl : l.length = n) (hn : 1 ≤ n) : ∃ x t, l = x :: t ∧ P (n - 1) = x ∧ ∀ v, zPl (upd P (n - 1) v) (v :: t) ∧ (v :: t).length = n := by
  cases l with
  | nil => simp at hl; omega
  | cons x t =>
    obtain ⟨h1, h2⟩ := zPl_pop h
    have e : n - 1 = t.length := by simp only [List.length_cons] at hl; omega
    refine ⟨x, t, rfl, by rw [e]; exact h1, fun v => ⟨?_, by simpa using hl⟩⟩
    rw [e]
    exact zPl_push h2 rfl v
theorem zPl_two {P : Nat → Int32} {l : List Int32} {n : Nat} (h : zPl P l) (hl : l.length = n) (hn : 2 ≤ n) : ∃ y x t, l = y :: x :: t ∧ P (n - 1) = y ∧ P (n - 1 - 1) = x ∧ ∀ v, zPl (upd P (n - 1 - 1) v) (v :: t) ∧ (v :: t).length = n - 1 := by
  cases l with
  | nil => simp at hl; omega
  | cons y l =>
    cases l with
    | nil => simp at hl; omega
    | cons x t =>
      obtain ⟨h1, h2⟩ := zPl_pop h
      obtain ⟨h3, h4⟩ := zPl_pop h2
      have e1 : n - 1 = (x :: t).length := by simp only [List.length_cons] at hl ⊢; omega
      have e2 : n - 1 - 1 = t.length := by rw [e1]; simp
      refine ⟨y, x, t, rfl, by rw [e1]; exact h1, by rw [e2]; exact h3, fun v => ⟨?_, ?_⟩⟩
      · rw [e2]; exact zPl_push h4 rfl v
      · rw [e1]; simp
def sp_stp (op wv : Int32) (fa : Nat → Int32) (l : List Int32) : List Int32 :=
  if op = 1 then wv :: l else if op = 2 then fa (zn wv) :: l
  else if op = 3 then (match l with | x :: t => (if x = 0 then 1 else 0) :: t | [] => [])
  else (match l with | y :: x :: t => sp_two op x y :: t | _ => [])
def sp_wk (A W fa : Nat → Int32) : Nat → List Int32
  | 0 => []
  | k + 1 => sp_stp (A k) (W k) fa (sp_wk A W fa k)
def sp_res (l : List Int32) : Int32 := l.getD (l.length - 1) 0
/-- a law that one can work: how deep the pile is behind each step -/
def zWf (A W : Nat → Int32) (L : Nat) : Prop := ∃ dp : Nat → Nat, dp 0 = 0 ∧ (∀ k, k < L → (A k = 1 ∧ dp (k + 1) = dp k + 1) ∨ (A k = 2 ∧ zle (W k) 2 ∧ dp (k + 1) = dp k + 1) ∨ (A k = 3 ∧ 1 ≤ dp k ∧ dp (k + 1) = dp k) ∨ (¬ A k = 1 ∧ ¬ A k = 2 ∧ ¬ A k = 3 ∧ 2 ≤ dp k ∧ dp (k + 1) = dp k - 1)) ∧ 1 ≤ dp L
theorem zWf_le {A W : Nat → Int32} {L : Nat} {dp : Nat → Nat} (h0 : dp 0 = 0) (hs : ∀ k, k < L → (A k = 1 ∧ dp (k + 1) = dp k + 1) ∨ (A k = 2 ∧ zle (W k) 2 ∧ dp (k + 1) = dp k + 1) ∨ (A k = 3 ∧ 1 ≤ dp k ∧ dp (k + 1) = dp k) ∨ (¬ A k = 1 ∧ ¬ A k = 2 ∧ ¬ A k = 3 ∧ 2 ≤ dp k ∧ dp (k + 1) = dp k - 1)) : ∀ k, k ≤ L → dp k ≤ k
  | 0, _ => by omega
  | k + 1, h => by
    have h1 := zWf_le h0 hs k (by omega)
    rcases hs k (by omega) with ⟨-, e⟩ | ⟨-, -, e⟩ | ⟨-, -, e⟩ | ⟨-, -, -, -, e⟩ <;> omega
theorem sp_wk_cong {A W fa fb : Nat → Int32} : ∀ {L : Nat}, (∀ k, k < L → A k = 2 → fa (zn (W k)) = fb (zn (W k))) → sp_wk A W fa L = sp_wk A W fb L
  | 0, _ => rfl
  | L + 1, h => by
    have ih := sp_wk_cong (L := L) (fun k hk => h k (by omega))
    show sp_stp _ _ _ _ = sp_stp _ _ _ _
    rw [ih]
    unfold sp_stp
    by_cases h1 : A L = 1
    · rw [if_pos h1, if_pos h1]
    · rw [if_neg h1, if_neg h1]
      by_cases h2 : A L = 2
      · rw [if_pos h2, if_pos h2, h L (by omega) h2]
      · rw [if_neg h2, if_neg h2]
def sp_fa (a b c : Int32) : Nat → Int32 := fun j => if j = 0 then a else if j = 1 then b else c
def sp_len (ρ : Nat → Int32) (u : Nat) : Nat := zn (ρ (282 + 121 * u))
def sp_A (ρ : Nat → Int32) (u : Nat) : Nat → Int32 := fun k => ρ (282 + 121 * u + 1 + k)
def sp_W (ρ : Nat → Int32) (u : Nat) : Nat → Int32 := fun k => ρ (282 + 121 * u + 61 + k)
/-- the law of a use is as it should be -/
def zCk (ρ : Nat → Int32) (u : Nat) : Prop := ρ (282 + 121 * u) = nI (sp_len ρ u) ∧ sp_len ρ u ≤ 60 ∧ (0 < sp_len ρ u → zWf (sp_A ρ u) (sp_W ρ u) (sp_len ρ u))
def sp_raw (ρ : Nat → Int32) (u : Nat) (a b c : Int32) : Int32 := if 0 < sp_len ρ u then sp_res (sp_wk (sp_A ρ u) (sp_W ρ u) (sp_fa a b c) (sp_len ρ u)) else if u = 0 then a + b else b + 1
def sp_gives (ρ : Nat → Int32) (u : Nat) (a b c : Int32) : Int32 := if u = 0 then zheld (sp_raw ρ u a b c) 0 999 else zheld (sp_raw ρ u a b c) (-9) 9
def zOkAll (ρ : Nat → Int32) : Prop := zOkR ρ ∧ zCk ρ 0 ∧ zCk ρ 1
theorem zOkAll_u {ρ : Nat → Int32} (h : zOkAll ρ) {u : Nat} (hu : u < 2) : zCk ρ u := by
  rcases (show u = 0 ∨ u = 1 by omega) with rfl | rfl
  · exact h.2.1
  · exact h.2.2
def sp_graze (ρ : Nat → Int32) (i : Nat) : Int32 := sp_gives ρ 0 (nI (lpop (sp_ins ρ i))) (ρ (6 + 13 * i + 3)) (ρ (6 + 13 * i + 0))
