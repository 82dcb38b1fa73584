/-! numbers read off a row; sets of cells: how far one comes from the rim -/
def zn (x : Int32) : Nat := x.toNatClampNeg
theorem zn_nI {n : Nat} (h : n < 2 ^ 31) : zn (nI n) = n := nI_clamp h
theorem zle_zn {x : Int32} {m : Nat} (hm : m < 2 ^ 31) (h : zle x m) : x = nI (zn x) ∧ zn x ≤ m := by
  obtain ⟨k, hk, rfl⟩ := h
  rw [zn_nI (by omega)]
  exact ⟨rfl, hk⟩
def sp_nf (ρ : Nat → Int32) : Nat := zn (ρ 2)
def sp_nc (ρ : Nat → Int32) : Nat := zn (ρ 3)
def sp_np (ρ : Nat → Int32) (i : Nat) : Nat := zn (ρ (6 + 13 * i + 3))
theorem ok_nf2 {ρ : Nat → Int32} (h : zOkR ρ) : ρ 2 = nI (sp_nf ρ) ∧ sp_nf ρ ≤ 4 := zle_zn (by decide) (ok_nf h)
theorem ok_nc2 {ρ : Nat → Int32} (h : zOkR ρ) : ρ 3 = nI (sp_nc ρ) ∧ sp_nc ρ ≤ 6 := zle_zn (by decide) (ok_nc h)
theorem ok_np2 {ρ : Nat → Int32} (h : zOkR ρ) {i : Nat} (hi : i < 4) : ρ (6 + 13 * i + 3) = nI (sp_np ρ i) ∧ sp_np ρ i ≤ 8 := zle_zn (by decide) (ok_f h hi (j := 3) (by decide))
def lbit (x : Int64) (i : Nat) : Bool := x.toBitVec.getLsbD i
theorem lbit_ext {x y : Int64} (h : ∀ i, i < 64 → lbit x i = lbit y i) : x = y := by
  have : x.toBitVec = y.toBitVec := BitVec.eq_of_getLsbD_eq fun i hi => h i hi
  exact Int64.toBitVec_inj.mp this
theorem lbit_or (x y : Int64) (i : Nat) : lbit (x ||| y) i = (lbit x i || lbit y i) := by simp [lbit]
theorem lbit_and (x y : Int64) (i : Nat) : lbit (x &&& y) i = (lbit x i && lbit y i) := by simp [lbit]
theorem lbit_xor (x y : Int64) (i : Nat) : lbit (x ^^^ y) i = (lbit x i ^^ lbit y i) := by simp [lbit]
theorem lbit_m1 : ∀ i, i < 64 → lbit (-1) i = true := by decide +kernel
theorem lbit_0 (i : Nat) : lbit 0 i = false := by simp [lbit]
def lpop (x : Int64) : Nat := fb_ct (lbit x) 64
theorem lpop_le (x : Int64) : lpop x ≤ 64 := fb_ct_le _ _
theorem lpop_grow {x y : Int64} (h : ¬ x ||| y = x) : lpop x + 1 ≤ lpop (x ||| y) := by
  have h1 : ∃ i, i < 64 ∧ lbit x i = false ∧ lbit y i = true := by
    apply Classical.byContradiction
    intro hn
    apply h
    apply lbit_ext
    intro i hi
    rw [lbit_or]
    cases hx : lbit x i with
    | true => rfl
    | false =>
      cases hy : lbit y i with
      | false => rfl
      | true => exact absurd ⟨i, hi, hx, hy⟩ hn
  obtain ⟨i, hi, hx, hy⟩ := h1
  have h2 := fb_ct_upd (lbit x) true hi
  rw [hx] at h2
  have h3 : fb_ct (fun k => if k = i then true else lbit x k) 64 ≤ fb_ct (lbit (x ||| y)) 64 := by
    apply fb_ct_sub
    intro k hk hq
    rw [lbit_or]
    by_cases hki : k = i
    · subst hki; rw [hy]; simp
    · rw [if_neg hki] at hq; rw [hq]; rfl
  unfold lpop
  rw [if_neg (show ¬ false = true by decide), if_pos rfl] at h2
  omega
theorem sp_it_pop (op : Int64) : ∀ k, (∀ j, j < k → ¬ sp_it op (j + 1) = sp_it op j) → k ≤ lpop (sp_it op k)
  | 0, _ => Nat.zero_le _
  | k + 1, h => by
    have h1 := sp_it_pop op k (fun j hj => h j (by omega))
    have h2 := lpop_grow (h k (by omega))
    have h3 : sp_it op (k + 1) = sp_it op k ||| sp_beside (sp_it op k) &&& op := rfl
    rw [h3]
    omega
theorem sp_it_stay (op : Int64) {k : Nat} (h : sp_it op (k + 1) = sp_it op k) : ∀ n, sp_it op (k + n) = sp_it op k
  | 0 => rfl
  | n + 1 => by
    have h1 := sp_it_stay op h n
    show sp_it op (k + n) ||| sp_beside (sp_it op (k + n)) &&& op = sp_it op k
    rw [h1]
    exact h
theorem sp_it_fix (op : Int64) : sp_it op 65 = sp_it op 64 := by
  by_cases hj : ∃ j, j < 65 ∧ sp_it op (j + 1) = sp_it op j
  · obtain ⟨j, h1, h2⟩ := hj
    have a := sp_it_stay op h2 (65 - j)
    have b := sp_it_stay op h2 (64 - j)
    rw [show j + (65 - j) = 65 by omega] at a
    rw [show j + (64 - j) = 64 by omega] at b
    rw [a, b]
  · have h1 := sp_it_pop op 65 (fun j h1 h2 => hj ⟨j, h1, h2⟩)
    have h2 := lpop_le (sp_it op 65)
    omega
def sp_was (op : Int64) : Nat → Int64
  | 0 => 0
  | k + 1 => sp_it op k
theorem sp_it_done (op : Int64) {k : Nat} (hk : k ≤ 65) (h : sp_it op k = sp_was op k) : sp_it op k = sp_it op 64 := by
  cases k with
  | zero =>
    have h1 : sp_it op (0 + 1) = sp_it op 0 := by
      show sp_it op 0 ||| sp_beside (sp_it op 0) &&& op = sp_it op 0
      rw [h]
      show (0 : Int64) ||| sp_beside 0 &&& op = 0
      rw [show sp_beside 0 = 0 by decide +kernel]
      simp
    have h2 := sp_it_stay op h1 64
    rw [Nat.zero_add] at h2
    exact h2.symm
  | succ k =>
    have h1 : sp_it op (k + 1) = sp_it op k := h
    rcases Nat.lt_or_ge k 64 with h3 | h3
    · have h2 := sp_it_stay op h1 (64 - k)
      rw [show k + (64 - k) = 64 by omega] at h2
      rw [h2, h1]
    · rw [show k = 64 by omega]
      exact sp_it_fix op
/-- what is inside of a fence -/
def sp_pset (ρ : Nat → Int32) (i : Nat) : Int64 := sp_posts ρ i (sp_np ρ i)
def sp_ins (ρ : Nat → Int32) (i : Nat) : Int64 := sp_in (sp_pset ρ i)
def sp_has (x : Int64) (c : Nat) : Prop := zlushr x (nI c) &&& 1 = 1
def sp_hasB (x : Int64) (c : Nat) : Bool := decide (zlushr x (nI c) &&& 1 = 1)
/-- the least fence from k on (n of them) inside of which a cell is -/
def sp_br (ρ : Nat → Int32) (c : Nat) : Nat → Nat → Int32
  | 0, _ => -1
  | n + 1, k => if sp_hasB (sp_ins ρ k) c then nI k else sp_br ρ c n (k + 1)
theorem sp_br_y {ρ : Nat → Int32} {c n k : Nat} (h : sp_has (sp_ins ρ k) c) : sp_br ρ c (n + 1) k = nI k := by
  show (if sp_hasB (sp_ins ρ k) c then nI k else sp_br ρ c n (k + 1)) = nI k
  rw [if_pos (show sp_hasB (sp_ins ρ k) c = true from decide_eq_true (p := zlushr (sp_ins ρ k) (nI c) &&& 1 = 1) h)]
theorem sp_br_n {ρ : Nat → Int32} {c n k : Nat} (h : ¬ sp_has (sp_ins ρ k) c) : sp_br ρ c (n + 1) k = sp_br ρ c n (k + 1) := by
  show (if sp_hasB (sp_ins ρ k) c then nI k else sp_br ρ c n (k + 1)) = _
  rw [if_neg (fun (q : sp_hasB (sp_ins ρ k) c = true) => h (of_decide_eq_true (p := zlushr (sp_ins ρ k) (nI c) &&& 1 = 1) q))]
def sp_brand (ρ : Nat → Int32) (c : Nat) : Int32 := sp_br ρ c (sp_nf ρ) 0
/-- where a post heads -/
def sp_heads (ρ : Nat → Int32) (i p : Nat) : Int32 :=
  if ρ (6 + 13 * i + 0) = 2 then (if zirem (ρ 0) 2 = 1 then -1 else ρ (6 + 13 * i + 2))
  else if ρ (6 + 13 * i + 0) = 3 then zirem (ρ (6 + 13 * i + 2) + ρ 0 / (ρ (6 + 13 * i + 1) + 1)) 4
  else if ρ (6 + 13 * i + 0) = 4 then (if 1 < zirem (ρ 0) 4 then zirem (ρ (6 + 13 * i + 2) + 2) 4 else ρ (6 + 13 * i + 2))
  else if ρ (6 + 13 * i + 0) = 5 then (if nI p = 0 then -1 else if zirem (ρ 0) 2 = 1 then -1 else ρ (6 + 13 * i + 2))
  else if ρ (6 + 13 * i + 0) = 6 then (if ρ (6 + 13 * i + 1) = 9 then ρ (6 + 13 * i + 2) else -1)
  else ρ (6 + 13 * i + 2)
/-- where a post would come -/
def sp_to (ρ : Nat → Int32) (i p : Nat) : Int32 := sp_next (ρ (6 + 13 * i + (5 + p))) (sp_heads ρ i p)
/-- one post's move -/
def sp_mv (ρ : Nat → Int32) (i p : Nat) : Nat → Int32 :=
  if sp_to ρ i p < 0 then ρ
  else if ρ (70 + zn (sp_to ρ i p)) = 0 then
    (if (ρ (6 + 13 * i + 0) = 1 ∨ ρ (6 + 13 * i + 0) = 4) then (if ρ (134 + zn (sp_to ρ i p)) = 0 then upd ρ (6 + 13 * i + (5 + p)) (sp_to ρ i p) else ρ) else upd ρ (6 + 13 * i + (5 + p)) (sp_to ρ i p))
  else ρ
def sp_mvs (ρ : Nat → Int32) (i : Nat) : Nat → (Nat → Int32)
  | 0 => ρ
  | p + 1 => sp_mv (sp_mvs ρ i p) i p
def sp_mvF (ρ : Nat → Int32) : Nat → (Nat → Int32)
  | 0 => ρ
  | i + 1 => sp_mvs (sp_mvF ρ i) i (sp_np (sp_mvF ρ i) i)
def sp_moves (ρ : Nat → Int32) : Nat → Int32 := upd (sp_mvF ρ (sp_nf ρ)) 0 (sp_mvF ρ (sp_nf ρ) 0 + 1)
/-- the next cell of a cell is a cell -/
theorem sp_next_in : ∀ c, c < 64 → ∀ w : Int32, ¬ sp_next (nI c) w < 0 → ∃ t, t < 64 ∧ sp_next (nI c) w = nI t := by
  have key : ∀ c, c < 64 → ∀ w : Int32, (w = 0 ∨ w = 1 ∨ w = 2 ∨ w = 3) → ¬ sp_next (nI c) w < 0 → ∃ t, t < 64 ∧ sp_next (nI c) w = nI t := by
    intro c hc w hw
    rcases hw with rfl | rfl | rfl | rfl <;> revert c <;> decide +kernel
  intro c hc w h
  by_cases h0 : w = 0
  · exact key c hc w (Or.inl h0) h
  · by_cases h1 : w = 1
    · exact key c hc w (Or.inr (Or.inl h1)) h
    · by_cases h2 : w = 2
      · exact key c hc w (Or.inr (Or.inr (Or.inl h2))) h
      · by_cases h3 : w = 3
        · exact key c hc w (Or.inr (Or.inr (Or.inr h3))) h
        · exfalso
          apply h
          unfold sp_next
          rw [if_neg h0, if_neg h1, if_neg h2, if_neg h3]
          decide
theorem zbd_post {i p : Nat} (hi : i < 4) (hp : p < 8) : zbd (6 + 13 * i + (5 + p)) = some 63 := by
  rw [zbd_f hi (show 5 + p < 13 by omega)]
  unfold zmax
  rw [if_neg (by omega), if_neg (by omega), if_neg (by omega), if_neg (by omega), if_neg (by omega)]
theorem sp_mv_cases (ρ : Nat → Int32) (i p : Nat) : sp_mv ρ i p = ρ ∨ (¬ sp_to ρ i p < 0 ∧ sp_mv ρ i p = upd ρ (6 + 13 * i + (5 + p)) (sp_to ρ i p)) := by
  unfold sp_mv
  by_cases h1 : sp_to ρ i p < 0
  · rw [if_pos h1]; exact Or.inl rfl
  · rw [if_neg h1]
    split
    · split
      · split
        · exact Or.inr ⟨h1, rfl⟩
        · exact Or.inl rfl
      · exact Or.inr ⟨h1, rfl⟩
    · exact Or.inl rfl
theorem sp_mv_ne (ρ : Nat → Int32) {i p k : Nat} (h : k ≠ 6 + 13 * i + (5 + p)) : sp_mv ρ i p k = ρ k := by
  rcases sp_mv_cases ρ i p with e | ⟨-, e⟩
  · rw [e]
  · rw [e, upd_ne h]
theorem sp_to_in {ρ : Nat → Int32} (hok : zOkR ρ) {i p : Nat} (hi : i < 4) (hp : p < 8) (h : ¬ sp_to ρ i p < 0) : ∃ t, t < 64 ∧ sp_to ρ i p = nI t := by
  obtain ⟨c, hc, ec⟩ := ok_post hok hi hp
  unfold sp_to at h ⊢
  rw [ec] at h ⊢
  exact sp_next_in c (by omega) _ h
theorem ok_mv {ρ : Nat → Int32} (hok : zOkR ρ) {i p : Nat} (hi : i < 4) (hp : p < 8) : zOkR (sp_mv ρ i p) := by
  rcases sp_mv_cases ρ i p with e | ⟨h, e⟩
  · rw [e]; exact hok
  · rw [e]
    apply zOkR_upd hok
    intro m hm
    rw [zbd_post hi hp] at hm
    cases hm
    obtain ⟨t, ht, et⟩ := sp_to_in hok hi hp h
    exact ⟨t, by omega, et⟩
theorem sp_mvs_ne (ρ : Nat → Int32) {i k : Nat} : ∀ n, (∀ p, p < n → k ≠ 6 + 13 * i + (5 + p)) → sp_mvs ρ i n k = ρ k
  | 0, _ => rfl
  | n + 1, h => by
    show sp_mv (sp_mvs ρ i n) i n k = ρ k
    rw [sp_mv_ne _ (h n (by omega)), sp_mvs_ne ρ n (fun p hp => h p (by omega))]
theorem ok_mvs {ρ : Nat → Int32} (hok : zOkR ρ) {i : Nat} (hi : i < 4) : ∀ n, n ≤ 8 → zOkR (sp_mvs ρ i n)
  | 0, _ => hok
  | n + 1, h => ok_mv (ok_mvs hok hi n (by omega)) hi (by omega)
theorem ok_mvF {ρ : Nat → Int32} (hok : zOkR ρ) : ∀ n, n ≤ 4 → zOkR (sp_mvF ρ n)
  | 0, _ => hok
  | n + 1, h => ok_mvs (ok_mvF hok n (by omega)) (by omega) _ (ok_np2 (ok_mvF hok n (by omega)) (by omega)).2
theorem sp_mvF_ne {ρ : Nat → Int32} (hok : zOkR ρ) {k : Nat} : ∀ n, n ≤ 4 → (∀ i p, i < n → p < 8 → k ≠ 6 + 13 * i + (5 + p)) → sp_mvF ρ n k = ρ k
  | 0, _, _ => rfl
  | n + 1, hn, h => by
    show sp_mvs (sp_mvF ρ n) n (sp_np (sp_mvF ρ n) n) k = ρ k
    have h8 := (ok_np2 (ok_mvF hok n (by omega)) (i := n) (by omega)).2
    rw [sp_mvs_ne _ _ (fun p hp => h n p (by omega) (by omega)), sp_mvF_ne hok n (by omega) (fun i p hi hp => h i p (by omega) hp)]
theorem sp_moves_ne {ρ : Nat → Int32} (hok : zOkR ρ) {k : Nat} (h0 : k ≠ 0) (h : ∀ i p, i < 4 → p < 8 → k ≠ 6 + 13 * i + (5 + p)) : sp_moves ρ k = ρ k := by
  unfold sp_moves
  rw [upd_ne h0, sp_mvF_ne hok _ (ok_nf2 hok).2 (fun i p hi hp => h i p (by have := (ok_nf2 hok).2; omega) hp)]
theorem ok_moves {ρ : Nat → Int32} (hok : zOkR ρ) : zOkR (sp_moves ρ) := by
  unfold sp_moves
  exact zOkR_upd (ok_mvF hok _ (ok_nf2 hok).2) (fun m hm => by cases hm)
theorem sp_moves_nf {ρ : Nat → Int32} (hok : zOkR ρ) : sp_nf (sp_moves ρ) = sp_nf ρ := by
  unfold sp_nf
  rw [sp_moves_ne hok (by decide) (fun i p _ _ => by omega)]
theorem zu_va {M : zM} {i k : Nat} {R : Nat → Int32} {v : Int32} : zu (va_up M i R) i k v = va_up M i (upd R k v) := by
  unfold zu
  rw [va_up_twice, va_up_self]
