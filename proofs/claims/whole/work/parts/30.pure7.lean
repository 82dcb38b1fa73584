/-! what the public calls need -/
def zQ (A M' : zM) : Prop := (∀ i, i ≠ 82 → i ≠ 85 → i ≠ 90 → i ≠ 91 → i ≠ 92 → i ≠ 93 → M' i = A i) ∧ M' 82 3 = A 82 3 ∧ M' 82 18 = A 82 18
theorem zQ.rf {A : zM} : zQ A A := ⟨fun _ _ _ _ _ _ _ => rfl, rfl, rfl⟩
theorem zQ.tr {A M1 M2 : zM} (h : zQ A M1) (h2 : zQ M1 M2) : zQ A M2 := ⟨fun i a b c d e f => (h2.1 i a b c d e f).trans (h.1 i a b c d e f), h2.2.1.trans h.2.1, h2.2.2.trans h.2.2⟩
theorem zQ.sy {A M1 : zM} (h : zQ A M1) : zQ M1 A := ⟨fun i a b c d e f => (h.1 i a b c d e f).symm, h.2.1.symm, h.2.2.symm⟩
theorem zQ.va {A M1 : zM} {i : Nat} {f : Nat → Int32} (h : zQ A M1) (hi : i = 85 ∨ i = 90 ∨ i = 91 ∨ i = 92 ∨ i = 93) : zQ A (va_up M1 i f) :=
  ⟨fun j a b c d e f => by rw [va_up_ne _ _ (by omega)]; exact h.1 j a b c d e f, by rw [va_up_ne _ _ (by omega)]; exact h.2.1, by rw [va_up_ne _ _ (by omega)]; exact h.2.2⟩
theorem zQ.up {A M1 : zM} {i : Nat} {f : Nat → Int32} (h : zQ A M1) (hi : i ≠ 82) : zQ (va_up A i f) (va_up M1 i f) := by
  refine ⟨fun j a b c d e g => ?_, by rw [va_up_ne _ _ (Ne.symm hi), va_up_ne _ _ (Ne.symm hi)]; exact h.2.1, by rw [va_up_ne _ _ (Ne.symm hi), va_up_ne _ _ (Ne.symm hi)]; exact h.2.2⟩
  by_cases hj : j = i
  · subst hj; rw [va_up_self, va_up_self]
  · rw [va_up_ne _ _ hj, va_up_ne _ _ hj]; exact h.1 j a b c d e g
theorem zQ.er {A M1 : zM} {k : Nat} (h : zQ A M1) : zQ (zEr A k) (zEr M1 k) := by
  have e := h.1 86 (by decide) (by decide) (by decide) (by decide) (by decide) (by decide)
  unfold zEr zu
  rw [e]
  exact h.up (by decide)
theorem zQ.sm {M M1 : zM} {R : Nat → Int32} (h : zSm M M1) (hr : M1 83 = R) : zQ (va_up M 83 R) M1 := by
  refine ⟨fun i a b c d e f => ?_, ?_, ?_⟩
  · by_cases hi : i = 83
    · subst hi; rw [va_up_self]; exact hr
    · rw [va_up_ne _ _ hi]; exact h i hi e f
  · rw [va_up_ne _ _ (by decide)]; exact congrFun (h 82 (by decide) (by decide) (by decide)) 3
  · rw [va_up_ne _ _ (by decide)]; exact congrFun (h 82 (by decide) (by decide) (by decide)) 18
/-- thought, and put back -/
theorem zQ.bk {M M1 : zM} (h : zSm (va_up M 85 (M 83)) M1) : zQ M (va_up M1 83 (M1 85)) := by
  have e : M1 85 = M 83 := by rw [h 85 (by decide) (by decide) (by decide), va_up_self]
  refine ⟨fun i a b c d e2 f => ?_, ?_, ?_⟩
  · by_cases hi : i = 83
    · subst hi; rw [va_up_self]; exact e
    · rw [va_up_ne _ _ hi, h i hi e2 f, va_up_ne _ _ b]
  · rw [va_up_ne _ _ (by decide), h 82 (by decide) (by decide) (by decide), va_up_ne _ _ (by decide)]
  · rw [va_up_ne _ _ (by decide), h 82 (by decide) (by decide) (by decide), va_up_ne _ _ (by decide)]
theorem zSm.mv {M M1 : zM} (h : zSm M M1) : zSm M (va_up M1 83 (sp_moves (M1 83))) := h.row
def sp_nw (ρ : Nat → Int32) : Nat := zn (ρ 5)
def sp_nt (ρ : Nat → Int32) : Nat := zn (ρ 4)
theorem ok_nw2 {ρ : Nat → Int32} (h : zOkR ρ) : ρ 5 = nI (sp_nw ρ) ∧ sp_nw ρ ≤ 24 := zle_zn (by decide) (ok_nw h)
theorem ok_nt2 {ρ : Nat → Int32} (h : zOkR ρ) : ρ 4 = nI (sp_nt ρ) ∧ sp_nt ρ ≤ 60 := zle_zn (by decide) (ok_nt h)
/-- sheets and the trace are as they should be -/
def zShOk (M : zM) : Prop := ∀ s, s < 4 → zle (M 88 s) 24
def sh_n (M : zM) (s : Nat) : Nat := zn (M 88 s)
theorem sh_n2 {M : zM} (h : zShOk M) {s : Nat} (hs : s < 4) : M 88 s = nI (sh_n M s) ∧ sh_n M s ≤ 24 := zle_zn (by decide) (h s hs)
def zTrOk (M : zM) : Prop := zle (M 82 18) 30
def tr_n (M : zM) : Nat := zn (M 82 18)
theorem tr_n2 {M : zM} (h : zTrOk M) : M 82 18 = nI (tr_n M) ∧ tr_n M ≤ 30 := zle_zn (by decide) h
def sp_chk (ρ : Nat → Int32) : Nat → Nat → Int32
  | 0, _ => 0
  | n + 1, k => if zin (nI k) 0 (ρ 2 - 1) = 0 then nI (1 + k) else if ρ (258 + k) = ρ (6 + 13 * k + 4) then sp_chk ρ n (k + 1) else nI (1 + k)
def sp_zero (C : Nat → Int32) (s : Nat) : Nat → (Nat → Int32)
  | 0 => C
  | k + 1 => upd (sp_zero C s k) (24 * s + k) 0
def sp_low (b v : Int32) : Int32 := if b = 8 then v.toInt8.toInt32 else if b = 16 then v.toInt16.toInt32 else v
def sp_mvc (C : Nat → Int32) (a b n : Nat) (bk : Bool) : Nat → (Nat → Int32)
  | 0 => C
  | k + 1 => upd (sp_mvc C a b n bk k) (b + (if bk then n - 1 - k else k)) (sp_mvc C a b n bk k (a + (if bk then n - 1 - k else k)))
def sp_sets (C : Nat → Int32) (s f : Nat) : Nat → Nat → (Nat → Int32) → Nat × (Nat → Int32)
  | 0, k, ρ => (k, ρ)
  | n + 1, k, ρ => if zin (C (24 * s + k)) 0 63 = 0 then (k, ρ) else sp_sets C s f n (k + 1) (upd ρ (6 + 13 * f + (5 + k)) (C (24 * s + k)))
def sp_find (p : Nat → Bool) : Nat → Nat → Nat
  | 0, k => k
  | n + 1, k => if p k then k else sp_find p n (k + 1)
theorem sp_find_t {p : Nat → Bool} {n k : Nat} (h : p k = true) : sp_find p (n + 1) k = k := by show (if p k then k else _) = k; rw [if_pos h]
theorem sp_find_f {p : Nat → Bool} {n k : Nat} (h : p k = false) : sp_find p (n + 1) k = sp_find p n (k + 1) := by show (if p k = true then k else _) = _; rw [h, if_neg (by decide)]
theorem sp_find_le {p : Nat → Bool} : ∀ n k, sp_find p n k ≤ k + n
  | 0, k => Nat.le_refl k
  | n + 1, k => by
    have := sp_find_le (p := p) n (k + 1)
    cases h : p k with
    | true => rw [sp_find_t h]; omega
    | false => rw [sp_find_f h]; omega
def sp_fd (ρ : Nat → Int32) (w : Int64) : Nat → (Nat → Int32)
  | 0 => ρ
  | k + 1 => upd (upd (sp_fd ρ w k) (198 + (sp_nt ρ + k)) (zlshr w (nI (8 * k)) &&& 255).toInt32) 4 (nI (sp_nt ρ + k + 1))
def sp_od : Nat → Nat → Nat → Nat × Nat
  | 0, a, b => (a, b)
  | n + 1, a, b => if a % 2 = 0 ∧ 1 < b then sp_od n (a / 2) (b / 2) else (a, b)
def sp_allin (ρ : Nat → Int32) : Nat → Int64
  | 0 => 0
  | k + 1 => sp_allin ρ k ||| sp_ins ρ k
def sp_cm (ρ : Nat → Int32) (x : Int64) : Nat → Int64
  | 0 => x
  | k + 1 => sp_cm ρ x k ||| sp_beside (sp_cm ρ x k) &&& (sp_allp (sp_movesN ρ (k + 1)) (sp_nf (sp_movesN ρ (k + 1))) ^^^ (-1))
def sp_fst (ρ : Nat → Int32) (c : Nat) : Nat := sp_find (fun k => decide (¬ sp_brand (sp_movesN ρ k) c < 0)) 61 0
def sp_wayN (ρ : Nat → Int32) (x : Int64) (c : Nat) : Nat := sp_find (fun k => decide (¬ zlushr (sp_cm ρ x k) (nI c) &&& 1 = 0)) 61 0
def sp_fit (C ρ : Nat → Int32) (s f n : Nat) : Nat := sp_find (fun k => decide (¬ sp_so C (sp_movesN ρ k) s f n = 0)) 61 0
def sp_sa (ρ : Nat → Int32) (f c n : Nat) : Nat := sp_find (fun a => sp_hadB ρ f c n (nI a) (-1)) 64 0
def sp_sb (ρ : Nat → Int32) (f c n a : Nat) : Nat := sp_find (fun b => sp_hadB ρ f c n (nI a) (nI b)) (63 - a) (a + 1)
def sp_sab (ρ : Nat → Int32) (f c n : Nat) : Nat := sp_find (fun a => decide (sp_sb ρ f c n a < 64)) 64 0
def vo_M (M : zM) (l : List Int32) : zM := va_up (zu M 82 18 (nI l.length)) 94 (sp_app (M 94) 0 l)
theorem zQ.vo {M : zM} {l : List Int32} {v w : Int32} : zQ (vo_M M l) (zu (zVo (zu (zu M 82 18 0) 82 19 v) 0 l) 82 19 w) := by
  refine ⟨fun i a b c d e f => ?_, ?_, ?_⟩
  · by_cases hi : i = 94
    · subst hi; rw [zu_ne (by decide), zVo_94]; unfold vo_M; rw [va_up_self, zu_ne (by decide), zu_ne (by decide)]
    · rw [zu_ne a, zVo_ne a hi, zu_ne a, zu_ne a]; unfold vo_M; rw [va_up_ne _ _ hi, zu_ne a]
  · rw [zu_at, zVo_82]; unfold vo_M; rw [va_up_ne _ _ (by decide), zu_at, zu_at, zu_at, upd_ne (by decide), upd_ne (by decide), upd_ne (by decide), upd_ne (by decide), upd_ne (by decide)]
  · rw [zu_at, zVo_82]; unfold vo_M; rw [va_up_ne _ _ (by decide), zu_at, upd_ne (by decide), upd_self, zu_at, upd_self, Nat.zero_add]
theorem zQ.vo0 {M : zM} {l : List Int32} {v : Int32} : zQ (vo_M M l) (zVo (zu (zu M 82 18 0) 82 19 v) 0 l) := by
  refine ⟨fun i a b c d e f => ?_, ?_, ?_⟩
  · by_cases hi : i = 94
    · subst hi; rw [zVo_94]; unfold vo_M; rw [va_up_self, zu_ne (by decide), zu_ne (by decide)]
    · rw [zVo_ne a hi, zu_ne a, zu_ne a]; unfold vo_M; rw [va_up_ne _ _ hi, zu_ne a]
  · rw [zVo_82]; unfold vo_M; rw [va_up_ne _ _ (by decide), zu_at, zu_at, zu_at, upd_ne (by decide), upd_ne (by decide), upd_ne (by decide), upd_ne (by decide)]
  · rw [zVo_82]; unfold vo_M; rw [va_up_ne _ _ (by decide), zu_at, upd_self, zu_at, upd_self, Nat.zero_add]
