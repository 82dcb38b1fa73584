/-! sets of one and of two cells -/
def bt (a : Nat) : Int64 := zlshl 1 (nI a)
theorem nz_one : ∀ a : Fin 64, nz64 (bt a.1) = nI a.1 := by decide +kernel
theorem nz_two : ∀ a b : Fin 64, a.1 < b.1 → nz64 (bt a.1 ||| bt b.1) = nI a.1 := by decide +kernel
theorem rm_one : ∀ a : Fin 64, bt a.1 &&& (bt a.1 - 1) = 0 ∧ ¬ bt a.1 = 0 ∧ ¬ bt a.1 = -1 := by decide +kernel
theorem rm_two : ∀ a b : Fin 64, a.1 < b.1 → (bt a.1 ||| bt b.1) &&& ((bt a.1 ||| bt b.1) - 1) = bt b.1 ∧ ¬ (bt a.1 ||| bt b.1) = 0 ∧ ¬ (bt a.1 ||| bt b.1) = -1 := by decide +kernel
