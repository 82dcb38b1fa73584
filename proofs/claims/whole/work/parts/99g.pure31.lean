/-! bits of one and of two cells are counted -/
theorem pop_one : ∀ a : Fin 64, lpop (bt a.1) = 1 := by decide +kernel
theorem pop_two : ∀ a b : Fin 64, a.1 < b.1 → lpop (bt a.1 ||| bt b.1) = 2 := by decide +kernel
theorem find_ge {p : Nat → Bool} : ∀ n k, k ≤ sp_find p n k
  | 0, k => Nat.le_refl k
  | n + 1, k => by
    cases h : p k with
    | true => rw [sp_find_t h]; exact Nat.le_refl k
    | false => rw [sp_find_f h]; have := find_ge (p := p) n (k + 1); omega
theorem find_hit {p : Nat → Bool} : ∀ n k, sp_find p n k < k + n → p (sp_find p n k) = true
  | 0, k, h => absurd h (Nat.lt_irrefl k)
  | n + 1, k, h => by
    cases q : p k with
    | true => rw [sp_find_t q]; exact q
    | false => rw [sp_find_f q] at h ⊢; exact find_hit n (k + 1) (by omega)
