/-! counting bits one by one -/
theorem nat_low {n : Nat} (h : 0 < n) (h64 : n < 2 ^ 64) : ∃ i, i < 64 ∧ n.testBit i = true ∧ ∀ j, j < i → n.testBit j = false := by
  have hex : ∃ i, i < 64 ∧ n.testBit i = true := by
    apply Classical.byContradiction
    intro hn
    have : n = 0 := by
      apply Nat.eq_of_testBit_eq
      intro i
      rw [Nat.zero_testBit]
      rcases Nat.lt_or_ge i 64 with hi | hi
      · cases hb : n.testBit i with
        | false => rfl
        | true => exact absurd ⟨i, hi, hb⟩ hn
      · exact Nat.testBit_lt_two_pow (Nat.lt_of_lt_of_le h64 (Nat.pow_le_pow_right (by decide) hi))
    omega
  obtain ⟨i, h1, h2, h3⟩ := fb_first (p := fun i => n.testBit i = true) hex
  exact ⟨i, h1, h2, fun j hj => by simpa using h3 j hj⟩
theorem nat_pred_bit {n i : Nat} (hi : n.testBit i = true) (hl : ∀ j, j < i → n.testBit j = false) (j : Nat) : (n - 1).testBit j = if j < i then true else if j = i then false else n.testBit j := by
  have hm : n % 2 ^ (i + 1) = 2 ^ i := by
    apply Nat.eq_of_testBit_eq
    intro k
    rw [Nat.testBit_mod_two_pow, Nat.testBit_two_pow]
    by_cases h1 : k < i
    · rw [hl k h1]; simp; omega
    · by_cases h2 : k = i
      · subst h2; rw [hi]; simp
      · have : ¬ k < i + 1 := by omega
        simp [this]; omega
  have hn := Nat.div_add_mod n (2 ^ (i + 1))
  rw [hm] at hn
  have hp : 0 < 2 ^ i := Nat.two_pow_pos i
  have h2p : 2 ^ (i + 1) = 2 * 2 ^ i := by rw [Nat.pow_succ, Nat.mul_comm]
  have e1 : n - 1 = 2 ^ (i + 1) * (n / 2 ^ (i + 1)) + (2 ^ i - 1) := by omega
  have e2 : n = 2 ^ (i + 1) * (n / 2 ^ (i + 1)) + 2 ^ i := by omega
  rw [e1, Nat.testBit_two_pow_mul_add _ (by omega)]
  by_cases h1 : j < i
  · rw [if_pos (by omega), if_pos h1, Nat.testBit_two_pow_sub_one]; simp [h1]
  · by_cases h2 : j = i
    · subst h2
      rw [if_pos (by omega), if_neg h1, if_pos rfl, Nat.testBit_two_pow_sub_one]; simp
    · rw [if_neg (by omega), if_neg h1, if_neg h2]
      have e3 : n.testBit j = (2 ^ (i + 1) * (n / 2 ^ (i + 1)) + 2 ^ i).testBit j := by rw [← e2]
      rw [e3, Nat.testBit_two_pow_mul_add _ (by omega), if_neg (by omega)]
theorem lbit_nat (x : Int64) (i : Nat) : lbit x i = x.toBitVec.toNat.testBit i := rfl
theorem lpop_next {x : Int64} (h : ¬ x = 0) : lpop (x &&& (x - 1)) + 1 = lpop x := by
  have hx : x.toBitVec.toNat < 2 ^ 64 := x.toBitVec.isLt
  have h0 : 0 < x.toBitVec.toNat := by
    rcases Nat.eq_zero_or_pos x.toBitVec.toNat with h1 | h1
    · exfalso
      apply h
      apply Int64.toBitVec_inj.mp
      apply BitVec.eq_of_toNat_eq
      rw [h1]; rfl
    · exact h1
  obtain ⟨i, hi, hb, hl⟩ := nat_low h0 hx
  have hs : (x - 1).toBitVec.toNat = x.toBitVec.toNat - 1 := by
    rw [Int64.toBitVec_sub, BitVec.toNat_sub]
    have h1 : (1 : Int64).toBitVec.toNat = 1 := by decide +kernel
    rw [h1]
    omega
  have key : ∀ j, lbit (x &&& (x - 1)) j = if j = i then false else lbit x j := by
    intro j
    rw [lbit_and, lbit_nat, lbit_nat, hs, nat_pred_bit hb hl]
    by_cases h1 : j < i
    · rw [if_pos h1, hl j h1, if_neg (by omega)]; rfl
    · rw [if_neg h1]
      by_cases h2 : j = i
      · rw [if_pos h2]; simp
      · rw [if_neg h2]; simp
  have h2 := fb_ct_upd (lbit x) false hi
  rw [show lbit x i = true from hb, if_pos rfl, if_neg (show ¬ false = true by decide)] at h2
  unfold lpop
  rw [fb_ct_cong (q := fun k => if k = i then false else lbit x k) (fun k _ => key k)]
  omega
theorem lpop_0 : lpop 0 = 0 := by
  unfold lpop
  exact fb_ct_zero.mpr (fun k _ => lbit_0 k)
/-- how many of 64 entries are 1 -/
def sp_cnt (ρ : Nat → Int32) (f : Nat) : Nat → Int32
  | 0 => 0
  | k + 1 => sp_cnt ρ f k + ρ (f + k)
def sp_allp (ρ : Nat → Int32) : Nat → Int64
  | 0 => 0
  | k + 1 => sp_allp ρ k ||| sp_pset ρ k
