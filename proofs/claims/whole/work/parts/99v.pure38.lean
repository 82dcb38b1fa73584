/-! the world as it is made -/
def zm0 : zM := fun i => bif (i == 1 || i == 23 || i == 45) then upd (fun _ => 0) 8 1 else bif (i == 20 || i == 42 || i == 64) then upd (fun _ => 0) 0 1 else bif (i == 83) then upd (fun _ => 0) 1 1 else fun _ => 0
def zn0 : zN := fun _ _ => 0
def zm0z (i : Nat) : Bool := !(i == 1 || i == 23 || i == 45) && !(i == 20 || i == 42 || i == 64) && !(i == 83)
theorem zm0_z {i : Nat} (h : zm0z i = true) (k : Nat) : zm0 i k = 0 := by
  unfold zm0z at h
  simp only [Bool.and_eq_true, Bool.not_eq_true'] at h
  obtain ⟨⟨h1, h2⟩, h3⟩ := h
  unfold zm0
  rw [h1, h2, h3]
  rfl
theorem zm0_r {k : Nat} (h : k ≠ 1) : zm0 83 k = 0 := by show upd (fun _ => 0) 1 1 k = 0; rw [upd_ne h]
theorem zm0_83 : zOkAll (zm0 83) := by
  have hl : ∀ u, u < 2 → sp_len (zm0 83) u = 0 := fun u hu => by unfold sp_len; rw [zm0_r (by omega)]; decide
  have hc : ∀ u, u < 2 → zCk (zm0 83) u := fun u hu => by
    unfold zCk
    rw [hl u hu]
    exact ⟨by rw [zm0_r (by omega)]; rfl, Nat.zero_le _, fun q => absurd q (Nat.lt_irrefl 0)⟩
  refine ⟨fun k m hk => ?_, hc 0 (by decide), hc 1 (by decide)⟩
  have h1 : k ≠ 1 := by rintro rfl; cases hk
  exact ⟨0, Nat.zero_le _, by rw [zm0_r h1]; rfl⟩
theorem zm0_inv : zInv zm0 := by
  refine ⟨zm0_83, fun q => absurd rfl q, fun s hs => ⟨0, Nat.zero_le _, rfl⟩, ⟨0, Nat.zero_le _, rfl⟩⟩
theorem zm0_rg : zRg 1 zm0 zn0 (zm0 83) := by
  have hl : ∀ u, u < 2 → sp_len (zm0 83) u = 0 := fun u hu => by unfold sp_len; rw [zm0_r (by omega)]; decide
  refine ⟨⟨rfl, rfl, rfl, rfl, rfl, rfl⟩, fun i hi => ?_, fun c hc => ⟨?_, ?_⟩, fun c hc => ?_, fun c hc => ?_, fun j hj => ?_, fun j hj => ?_, fun u hu => ?_⟩
  · have e1 : ∀ k, zm0 (1 + 8 + 2 * i) k = 0 := by
      rcases (show i = 0 ∨ i = 1 ∨ i = 2 ∨ i = 3 by omega) with rfl | rfl | rfl | rfl <;> exact fun k => zm0_z rfl k
    have e2 : ∀ k, zm0 (1 + 8 + 2 * i + 1) k = 0 := by
      rcases (show i = 0 ∨ i = 1 ∨ i = 2 ∨ i = 3 by omega) with rfl | rfl | rfl | rfl <;> exact fun k => zm0_z rfl k
    unfold zFn
    rw [e1, e1, e1, e1, e1, zm0_r (by omega), zm0_r (by omega), zm0_r (by omega), zm0_r (by omega), zm0_r (by omega)]
    exact ⟨rfl, rfl, rfl, rfl, rfl, fun p hp => by rw [e2, zm0_r (by omega)]⟩
  · rw [zm0_z rfl, zm0_r (by omega)]
  · rw [zm0_z rfl, zm0_r (by omega)]
  · rw [zm0_r (by omega)]; exact lbit_0 c
  · rw [zm0_r (by omega)]; exact lbit_0 c
  · rw [zm0_z rfl, zm0_r (by omega)]; rfl
  · rw [zm0_z rfl, zm0_r (by omega)]
  · rcases (show u = 0 ∨ u = 1 by omega) with rfl | rfl
    · exact ⟨rfl, rfl, fun k hk => by rw [hl 0 (by decide)] at hk; exact absurd hk (Nat.not_lt_zero k)⟩
    · exact ⟨rfl, rfl, fun k hk => by rw [hl 1 (by decide)] at hk; exact absurd hk (Nat.not_lt_zero k)⟩
theorem zm0_rl : zRl zm0 zn0 zm0 := by
  refine ⟨zm0_rg, fun q => absurd rfl q, fun u hu => ?_, fun j hj => by rw [zm0_z rfl, zm0_z rfl], rfl, ⟨rfl, fun j hj => by rw [zm0_z rfl, zm0_z rfl]⟩, fun s hs => ?_⟩
  · rcases (show u = 0 ∨ u = 1 by omega) with rfl | rfl <;> exact ⟨rfl, rfl⟩
  · rcases (show s = 0 ∨ s = 1 ∨ s = 2 ∨ s = 3 by omega) with rfl | rfl | rfl | rfl <;> exact ⟨rfl, rfl, fun k hk => by rw [zm0_z rfl, zm0_z rfl]⟩
/-- entries that say the same of the memory -/
def zEq (e e' : va_E) : Prop := e = e' ∨ ∃ (c : ClassId) (n : Nat) (f f' : Nat → Option Nat), e = .inl (c, n, .inr (.inr (.inr (.inr f)))) ∧ e' = .inl (c, n, .inr (.inr (.inr (.inr f')))) ∧ ∀ j, j < n → f j = f' j
theorem zEq.at {D : va_G} {q : Nat} {e e' : va_E} {H : Heap} (h : zEq e e') (hp : va_at D zcl (q, e) H) : va_at D zcl (q, e') H := by
  rcases h with rfl | ⟨c, n, f, f', rfl, rfl, hf⟩
  · exact hp
  · have hp : H[q]? = some (arrV c n (fun j => va_rf (f j))) := hp
    show H[q]? = some (arrV c n (fun j => va_rf (f' j)))
    rw [hp]
    have e : (Array.ofFn (n := n) fun j => va_rf (f j.val)) = Array.ofFn (n := n) fun j => va_rf (f' j.val) := by
      congr 1
      funext j
      rw [hf j.val j.isLt]
    unfold arrV
    rw [e]
theorem zW.eqv {X : zX} {B : zB} {g g' : Nat → va_E} {pc : Nat} {lv : List (Nat × Value)} {st : List Value} (hg : ∀ i, i < znn B → zEq (g i) (g' i)) (h : zW X B g' pc lv st) : zW X B g pc lv st := by
  obtain ⟨p, l, e, R, s, m, args, below, meth, c, Q, k1, sl1⟩ := X
  have hlen : ∀ g9 : Nat → va_E, (zwl (zad B) (znn B) g9).length = znn B := fun g9 => by unfold zwl; rw [List.length_map, List.length_range]
  have hk : ∀ (g9 : Nat → va_E) (k : Nat) (q : Nat × va_E), (zwl (zad B) (znn B) g9)[k]? = some q → k < znn B ∧ q = (zad B k, g9 k) := fun g9 k q hq => by
    by_cases c : k < znn B
    · rw [zwl_at c] at hq; cases hq; exact ⟨c, rfl⟩
    · rw [List.getElem?_eq_none (by rw [hlen]; omega)] at hq; cases hq
  intro H locs ls hP hD hS hl
  refine h H locs ls (fun k q hq => ?_) ⟨fun i j p9 q hi hj e => ?_, fun k q hq => ?_⟩ hS hl
  · obtain ⟨c, rfl⟩ := hk g' k q hq
    exact (hg k c).at (hP k _ (zwl_at c))
  · obtain ⟨c1, rfl⟩ := hk g' i p9 hi
    obtain ⟨c2, rfl⟩ := hk g' j q hj
    exact hD.1 i j _ _ (zwl_at c1) (zwl_at c2) e
  · obtain ⟨c, rfl⟩ := hk g' k q hq
    exact hD.2 k (zad B k, g k) (zwl_at c)
def zAnd (P : Nat → Prop) : Nat → Prop
  | 0 => True
  | n + 1 => P n ∧ zAnd P n
theorem zAnd.all {P : Nat → Prop} : ∀ {n : Nat}, zAnd P n → ∀ i, i < n → P i := by
  intro n
  induction n with
  | zero => intro _ i hi; exact absurd hi (Nat.not_lt_zero i)
  | succ n ih =>
    intro h i hi
    by_cases q : i = n
    · subst q; exact h.1
    · exact ih h.2 i (by omega)
