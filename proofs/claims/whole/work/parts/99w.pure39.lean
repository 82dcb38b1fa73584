/-! lists that say the same of the memory -/
def zSame : va_W → va_W → Prop
  | [], [] => True
  | x :: l, y :: l' => (x.1 = y.1 ∧ zEq x.2 y.2) ∧ zSame l l'
  | _, _ => False
theorem zSame.at : ∀ {l l' : va_W}, zSame l l' → ∀ (k : Nat) (q' : Nat × va_E), l'[k]? = some q' → ∃ q, l[k]? = some q ∧ q.1 = q'.1 ∧ zEq q.2 q'.2
  | [], [], _, k, q', h => by simp at h
  | x :: l, y :: l', h, 0, q', e => ⟨x, rfl, by cases e; exact h.1.1, by cases e; exact h.1.2⟩
  | x :: l, y :: l', h, k + 1, q', e => zSame.at h.2 k q' e
  | [], _ :: _, h, _, _, _ => h.elim
  | _ :: _, [], h, _, _, _ => h.elim
theorem zSame.app : ∀ {l1 l1' l2 l2' : va_W}, zSame l1 l1' → zSame l2 l2' → zSame (l1 ++ l2) (l1' ++ l2')
  | [], [], _, _, _, h => h
  | _ :: _, _ :: _, _, _, h1, h => ⟨h1.1, zSame.app h1.2 h⟩
  | [], _ :: _, _, _, h, _ => h.elim
  | _ :: _, [], _, _, h, _ => h.elim
def zseg (ad : Nat → Nat) (g : Nat → va_E) : Nat → Nat → va_W
  | _, 0 => []
  | k, n + 1 => (ad k, g k) :: zseg ad g (k + 1) n
theorem zseg_at {ad : Nat → Nat} {g : Nat → va_E} : ∀ {n k i : Nat}, i < n → (zseg ad g k n)[i]? = some (ad (k + i), g (k + i)) := by
  intro n
  induction n with
  | zero => intro k i h; exact absurd h (Nat.not_lt_zero i)
  | succ n ih =>
    intro k i h
    cases i with
    | zero => rfl
    | succ i =>
      show (zseg ad g (k + 1) n)[i]? = _
      rw [ih (by omega), show k + 1 + i = k + (i + 1) by omega]
theorem zseg_app {ad : Nat → Nat} {g : Nat → va_E} : ∀ {m n k : Nat}, zseg ad g k (m + n) = zseg ad g k m ++ zseg ad g (k + m) n := by
  intro m
  induction m with
  | zero => intro n k; rw [Nat.zero_add, Nat.add_zero]; rfl
  | succ m ih =>
    intro n k
    rw [show m + 1 + n = (m + n) + 1 by omega]
    show (ad k, g k) :: zseg ad g (k + 1) (m + n) = (ad k, g k) :: (zseg ad g (k + 1) m ++ zseg ad g (k + (m + 1)) n)
    rw [ih, show k + 1 + m = k + (m + 1) by omega]
def zBa (B : zB) (ad : Nat → Nat) (n : Nat) : zB := (B.1, B.2.1, B.2.2.1, ad, n, B.2.2.2.2.2)
theorem zV.eq {X : zX} {B : zB} {ws : va_W} {ad : Nat → Nat} {n : Nat} {g : Nat → va_E} {pc : Nat} {lv : List (Nat × Value)} {st : List Value} (hs : zSame ws (zseg ad g 0 n)) (h : zW X (zBa B ad n) g pc lv st) : zV X B ws pc lv st := by
  obtain ⟨p, l, e, R, s, m, args, below, meth, c, Q, k1, sl1⟩ := X
  have hlen : (zwl ad n g).length = n := by unfold zwl; rw [List.length_map, List.length_range]
  have hk : ∀ (k : Nat) (q : Nat × va_E), (zwl ad n g)[k]? = some q → ∃ q9, ws[k]? = some q9 ∧ q9.1 = q.1 ∧ zEq q9.2 q.2 := fun k q hq => by
    by_cases c : k < n
    · rw [zwl_at c] at hq; cases hq
      exact hs.at k (ad k, g k) (by have e9 := zseg_at (ad := ad) (g := g) (k := 0) c; rw [Nat.zero_add] at e9; exact e9)
    · rw [List.getElem?_eq_none (by rw [hlen]; omega)] at hq; cases hq
  intro H locs ls hP hD hS hl
  refine h H locs ls (fun k q hq => ?_) ⟨fun i j p9 q hi hj e => ?_, fun k q hq => ?_⟩ hS hl
  · obtain ⟨⟨a, e9⟩, h1, h2, h3⟩ := hk k q hq
    obtain ⟨a', e'⟩ := q
    obtain rfl : a = a' := h2
    exact h3.at (hP k _ h1)
  · obtain ⟨x, h1, h2, -⟩ := hk i p9 hi
    obtain ⟨y, h3, h4, -⟩ := hk j q hj
    exact hD.1 i j x y h1 h3 (by rw [h2, h4]; exact e)
  · obtain ⟨x, h1, h2, -⟩ := hk k q hq
    rw [← h2]; exact hD.2 k x h1
theorem zSame.seg {l1 l2 : va_W} {ad : Nat → Nat} {g : Nat → va_E} {k m n : Nat} (h1 : zSame l1 (zseg ad g k m)) (h2 : zSame l2 (zseg ad g (k + m) n)) : zSame (l1 ++ l2) (zseg ad g k (m + n)) := by
  rw [zseg_app]; exact zSame.app h1 h2
