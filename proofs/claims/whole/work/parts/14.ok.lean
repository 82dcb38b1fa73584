/-! a row that is as it should be; what an array holds beyond its end doesn't matter -/
theorem vp_cell_fit {cA : ClassId} {n : Nat} {f f' : Nat → Int32} (h : ∀ j, j < n → f j = f' j) : vp_cell cA (n, .inl f) = vp_cell cA (n, .inl f') := by
  rw [vp_cell_i, vp_cell_i]
  unfold arrV
  have : (fun j : Fin n => Value.int (f j.val)) = (fun j : Fin n => Value.int (f' j.val)) := funext fun j => by rw [h j.val j.isLt]
  rw [this]
theorem vp_cell_fitl {cA : ClassId} {n : Nat} {f f' : Nat → Int64} (h : ∀ j, j < n → f j = f' j) : vp_cell cA (n, .inr (.inl f)) = vp_cell cA (n, .inr (.inl f')) := by
  rw [vp_cell_l, vp_cell_l]
  unfold arrV
  have : (fun j : Fin n => Value.long (f j.val)) = (fun j : Fin n => Value.long (f' j.val)) := funext fun j => by rw [h j.val j.isLt]
  rw [this]
theorem zW_eqv {X : zX} {B : zB} {g g' : Nat → va_E} {pc : Nat} {lv : List (Nat × Value)} {st : List Value} (h : ∀ (i : Nat) (H : Heap), va_at B.1 zcl (zad B i, g i) H → va_at B.1 zcl (zad B i, g' i) H) (kk : zW X B g' pc lv st) : zW X B g pc lv st := by
  obtain ⟨p, l, e, R, s, m, args, below, meth, c, Q, k1, sl1⟩ := X
  intro H locs ls hP hD hS hl
  refine kk H locs ls (fun k q hq => ?_) ?_ hS hl
  · rcases Nat.lt_or_ge k (znn B) with hk | hk
    · rw [zwl_at hk] at hq
      cases hq
      exact h k H (hP k _ (zwl_at hk))
    · rw [zwl, List.getElem?_eq_none (by simpa using hk)] at hq
      cases hq
  · refine ⟨fun i j p q hi hj hpq => ?_, fun k q hq => ?_⟩
    · rcases Nat.lt_or_ge i (znn B) with h1 | h1
      · rcases Nat.lt_or_ge j (znn B) with h2 | h2
        · rw [zwl_at h1] at hi
          rw [zwl_at h2] at hj
          cases hi
          cases hj
          exact hD.1 i j _ _ (zwl_at h1) (zwl_at h2) hpq
        · rw [zwl, List.getElem?_eq_none (by simpa using h2)] at hj
          cases hj
      · rw [zwl, List.getElem?_eq_none (by simpa using h1)] at hi
        cases hi
    · rcases Nat.lt_or_ge k (znn B) with hk | hk
      · rw [zwl_at hk] at hq
        cases hq
        exact hD.2 k (zad B k, g k) (zwl_at hk)
      · rw [zwl, List.getElem?_eq_none (by simpa using hk)] at hq
        cases hq
theorem zo_fit {X : zX} {B : zB} {M : zM} {N : zN} {pc : Nat} {lv : List (Nat × Value)} {st : List Value} {i : Nat} {f f' : Nat → Int32} (hs : zsh i = 10) (h : ∀ j, j < zln i → f j = f' j) (kk : zW X B (zg B (va_up M i f') N) pc lv st) : zW X B (zg B (va_up M i f) N) pc lv st := by
  refine zW_eqv (fun j H hh => ?_) kk
  by_cases hj : j = i
  · subst hj
    rw [zg_i hs, va_up_self] at hh ⊢
    show H[zad B j]? = _
    have h9 : H[zad B j]? = some (vp_cell (zcy B 1) (zln j, .inl f)) := hh
    rw [h9, vp_cell_fit h]
  · rw [zg_ne (M' := va_up M i f) (N' := N) (by rw [va_up_ne _ _ hj, va_up_ne _ _ hj]) rfl]
    exact hh
theorem zo_fitl {X : zX} {B : zB} {M : zM} {N : zN} {pc : Nat} {lv : List (Nat × Value)} {st : List Value} {i : Nat} {f f' : Nat → Int64} (hs : zsh i = 12) (h : ∀ j, j < zln i → f j = f' j) (kk : zW X B (zg B M (va_up N i f')) pc lv st) : zW X B (zg B M (va_up N i f)) pc lv st := by
  refine zW_eqv (fun j H hh => ?_) kk
  by_cases hj : j = i
  · subst hj
    rw [zg_j hs, va_up_self] at hh ⊢
    show H[zad B j]? = _
    have h9 : H[zad B j]? = some (vp_cell (zcy B 2) (zln j, .inr (.inl f))) := hh
    rw [h9, vp_cell_fitl h]
  · rw [zg_ne (M' := M) (N' := va_up N i f) rfl (by rw [va_up_ne _ _ hj, va_up_ne _ _ hj])]
    exact hh
def zmax (j : Nat) : Nat := if j = 0 then 6 else if j = 1 then 9 else if j = 2 then 3 else if j = 3 then 8 else if j = 4 then 99999 else 63
def zbd (k : Nat) : Option Nat := if k < 2 then none else if k = 2 then some 4 else if k = 3 then some 6 else if k = 4 then some 60 else if k = 5 then some 24 else if k < 58 then some (zmax ((k - 6) % 13)) else if k < 70 then (if k % 2 = 0 then some 63 else some 999) else if k < 198 then some 1 else if k < 258 then some 255 else none
def zOkR (ρ : Nat → Int32) : Prop := ∀ k m, zbd k = some m → zle (ρ k) m
theorem zbd_f {i j : Nat} (hi : i < 4) (hj : j < 13) : zbd (6 + 13 * i + j) = some (zmax j) := by
  unfold zbd
  rw [if_neg (by omega), if_neg (by omega), if_neg (by omega), if_neg (by omega), if_neg (by omega), if_pos (by omega)]
  have : (6 + 13 * i + j - 6) % 13 = j := by omega
  rw [this]
theorem zbd_c {i : Nat} (hi : i < 6) : zbd (58 + 2 * i) = some 63 := by
  unfold zbd
  rw [if_neg (by omega), if_neg (by omega), if_neg (by omega), if_neg (by omega), if_neg (by omega), if_neg (by omega), if_pos (by omega), if_pos (by omega)]
theorem zbd_fat {i : Nat} (hi : i < 6) : zbd (58 + 2 * i + 1) = some 999 := by
  unfold zbd
  rw [if_neg (by omega), if_neg (by omega), if_neg (by omega), if_neg (by omega), if_neg (by omega), if_neg (by omega), if_pos (by omega), if_neg (by omega)]
theorem zbd_s {i : Nat} (hi : i < 128) : zbd (70 + i) = some 1 := by
  unfold zbd
  rw [if_neg (by omega), if_neg (by omega), if_neg (by omega), if_neg (by omega), if_neg (by omega), if_neg (by omega), if_neg (by omega), if_pos (by omega)]
theorem zbd_t {i : Nat} (hi : i < 60) : zbd (198 + i) = some 255 := by
  unfold zbd
  rw [if_neg (by omega), if_neg (by omega), if_neg (by omega), if_neg (by omega), if_neg (by omega), if_neg (by omega), if_neg (by omega), if_neg (by omega), if_pos (by omega)]
theorem zbd_big {k : Nat} (h : 258 ≤ k) : zbd k = none := by
  unfold zbd
  rw [if_neg (by omega), if_neg (by omega), if_neg (by omega), if_neg (by omega), if_neg (by omega), if_neg (by omega), if_neg (by omega), if_neg (by omega), if_neg (by omega)]
theorem zOkR_upd {ρ : Nat → Int32} (h : zOkR ρ) {k : Nat} {v : Int32} (hv : ∀ m, zbd k = some m → zle v m) : zOkR (upd ρ k v) := by
  intro j m hm
  unfold upd
  by_cases hj : j = k
  · rw [if_pos hj]; subst hj; exact hv m hm
  · rw [if_neg hj]; exact h j m hm
theorem ok_nf {ρ : Nat → Int32} (h : zOkR ρ) : zle (ρ 2) 4 := h 2 4 rfl
theorem ok_nc {ρ : Nat → Int32} (h : zOkR ρ) : zle (ρ 3) 6 := h 3 6 rfl
theorem ok_nt {ρ : Nat → Int32} (h : zOkR ρ) : zle (ρ 4) 60 := h 4 60 rfl
theorem ok_nw {ρ : Nat → Int32} (h : zOkR ρ) : zle (ρ 5) 24 := h 5 24 rfl
theorem ok_f {ρ : Nat → Int32} (h : zOkR ρ) {i j : Nat} (hi : i < 4) (hj : j < 13) : zle (ρ (6 + 13 * i + j)) (zmax j) := h _ _ (zbd_f hi hj)
theorem ok_post {ρ : Nat → Int32} (h : zOkR ρ) {i p : Nat} (hi : i < 4) (hp : p < 8) : zle (ρ (6 + 13 * i + (5 + p))) 63 := by
  have h1 := ok_f h hi (show 5 + p < 13 by omega)
  have h2 : zmax (5 + p) = 63 := by
    unfold zmax
    rw [if_neg (by omega), if_neg (by omega), if_neg (by omega), if_neg (by omega), if_neg (by omega)]
  rw [h2] at h1
  exact h1
theorem upd_self {f : Nat → Int32} {k : Nat} {v : Int32} : upd f k v k = v := by simp [upd]
theorem upd_ne {f : Nat → Int32} {k j : Nat} {v : Int32} (h : j ≠ k) : upd f k v j = f j := by simp [upd, h]
theorem zu_at {M : zM} {i k : Nat} {v : Int32} : zu M i k v i = upd (M i) k v := by simp [zu, va_up]
theorem zu_ne {M : zM} {i k j : Nat} {v : Int32} (h : j ≠ i) : zu M i k v j = M j := by simp [zu, va_up, h]
/-- a row copied up to k -/
def sp_cp (f g : Nat → Int32) (k : Nat) : Nat → Int32 := fun j => if j < k then f j else g j
theorem sp_cp_0 (f g : Nat → Int32) : sp_cp f g 0 = g := by funext j; simp [sp_cp]
theorem sp_cp_s (f g : Nat → Int32) (k : Nat) : upd (sp_cp f g k) k (f k) = sp_cp f g (k + 1) := by
  funext j
  unfold upd sp_cp
  by_cases h : j = k
  · subst h; rw [if_pos rfl, if_pos (by omega)]
  · rw [if_neg h]
    by_cases h2 : j < k
    · rw [if_pos h2, if_pos (by omega)]
    · rw [if_neg h2, if_neg (by omega)]
theorem va_up_twice {α : Type} (M : Nat → α) (i : Nat) (f g : α) : va_up (va_up M i f) i g = va_up M i g := by
  funext j; unfold va_up; by_cases h : j = i <;> simp [h]
theorem va_up_id {α : Type} (M : Nat → α) (i : Nat) : va_up M i (M i) = M := by
  funext j; unfold va_up; by_cases h : j = i <;> simp [h]
theorem lg0 {x y : Int64} : lg_cmp x y = 0 ↔ x = y := by
  unfold lg_cmp
  constructor
  · intro h
    by_cases h1 : x > y
    · rw [if_pos h1] at h; exact absurd h (by decide)
    · rw [if_neg h1] at h
      by_cases h2 : x = y
      · exact h2
      · rw [if_neg h2] at h; exact absurd h (by decide)
  · rintro rfl
    rw [if_neg (show ¬ x > x from fun h => Int64.lt_irrefl h), if_pos rfl]
