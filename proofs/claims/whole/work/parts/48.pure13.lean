/-! how many bits a long has, the fast way -/
def bc_map (f : Nat → Nat) : Nat → Nat → Nat
  | 0, _ => 0
  | k + 1, n => f (n % 256) + 256 * bc_map f k (n / 256)
def bc_m (c : Nat) : Nat → Nat
  | 0 => 0
  | k + 1 => c + 256 * bc_m c k
theorem bc_and (A c M : Nat) (hc : c < 256) : A &&& (c + 256 * M) = (A % 256 &&& c) + 256 * (A / 256 &&& M) := by
  have h1 : (A &&& (c + 256 * M)) % 2 ^ 8 = (A % 2 ^ 8) &&& ((c + 256 * M) % 2 ^ 8) := Nat.and_mod_two_pow
  have h2 : (A &&& (c + 256 * M)) / 2 ^ 8 = (A / 2 ^ 8) &&& ((c + 256 * M) / 2 ^ 8) := Nat.and_div_two_pow
  rw [show (2 : Nat) ^ 8 = 256 from rfl] at h1 h2
  rw [show (c + 256 * M) % 256 = c by omega] at h1
  rw [show (c + 256 * M) / 256 = M by omega] at h2
  have h3 := Nat.div_add_mod (A &&& (c + 256 * M)) 256
  rw [h1, h2] at h3
  omega
theorem bc_sh (p c : Nat) (hp : p = 1 ∨ p = 2 ∨ p = 4) (hc : c < 256) (hm : ∀ b, b < 256 → ∀ t, t < p → (b / p + 256 / p * t) &&& c = b / p &&& c) : ∀ k n, n / p &&& bc_m c k = bc_map (fun b => b / p &&& c) k n
  | 0, n => Nat.and_zero _
  | k + 1, n => by
    show n / p &&& (c + 256 * bc_m c k) = (n % 256 / p &&& c) + 256 * bc_map (fun b => b / p &&& c) k (n / 256)
    rw [bc_and _ _ _ hc, ← bc_sh p c hp hc hm k (n / 256)]
    have e1 : n / p / 256 = n / 256 / p := by rw [Nat.div_div_eq_div_mul, Nat.div_div_eq_div_mul, Nat.mul_comm]
    have e2 : n / p % 256 = n % 256 / p + 256 / p * (n / 256 % p) := by
      rcases hp with rfl | rfl | rfl <;> omega
    have e3 : n / 256 % p < p := Nat.mod_lt _ (by omega)
    rw [e1, e2, hm _ (Nat.mod_lt _ (by decide)) _ e3]
theorem bc_id : ∀ k n, n < 256 ^ k → ∀ f g : Nat → Nat, (∀ b, b < 256 → f b + g b = b) → bc_map f k n + bc_map g k n = n
  | 0, n, h, f, g, _ => by rw [Nat.pow_zero] at h; show 0 + 0 = n; omega
  | k + 1, n, h, f, g, hf => by
    rw [Nat.pow_succ] at h
    have ih := bc_id k (n / 256) (by omega) f g hf
    have h1 := hf (n % 256) (Nat.mod_lt _ (by decide))
    show f (n % 256) + 256 * bc_map f k (n / 256) + (g (n % 256) + 256 * bc_map g k (n / 256)) = n
    omega
theorem bc_add (f g : Nat → Nat) : ∀ k n, bc_map f k n + bc_map g k n = bc_map (fun b => f b + g b) k n
  | 0, _ => rfl
  | k + 1, n => by
    have ih := bc_add f g k (n / 256)
    show f (n % 256) + 256 * bc_map f k (n / 256) + (g (n % 256) + 256 * bc_map g k (n / 256)) = f (n % 256) + g (n % 256) + 256 * bc_map (fun b => f b + g b) k (n / 256)
    omega
theorem bc_comp (f g : Nat → Nat) (hf : ∀ b, b < 256 → f b < 256) : ∀ k n, bc_map g k (bc_map f k n) = bc_map (fun b => g (f b)) k n
  | 0, _ => rfl
  | k + 1, n => by
    have h1 := hf (n % 256) (Nat.mod_lt _ (by decide))
    show g ((f (n % 256) + 256 * bc_map f k (n / 256)) % 256) + 256 * bc_map g k ((f (n % 256) + 256 * bc_map f k (n / 256)) / 256) = g (f (n % 256)) + 256 * bc_map (fun b => g (f b)) k (n / 256)
    rw [show (f (n % 256) + 256 * bc_map f k (n / 256)) % 256 = f (n % 256) by omega, show (f (n % 256) + 256 * bc_map f k (n / 256)) / 256 = bc_map f k (n / 256) by omega, bc_comp f g hf k (n / 256)]
theorem bc_cong {f g : Nat → Nat} (h : ∀ b, b < 256 → f b = g b) : ∀ k n, bc_map f k n = bc_map g k n
  | 0, _ => rfl
  | k + 1, n => by
    show f (n % 256) + 256 * bc_map f k (n / 256) = g (n % 256) + 256 * bc_map g k (n / 256)
    rw [h _ (Nat.mod_lt _ (by decide)), bc_cong h k]
theorem bc_nib (f : Nat → Nat) (hf : ∀ b, b < 256 → f b ≤ 68 ∧ f b % 16 ≤ 4) : ∀ k n, (bc_map f k n + bc_map f k n / 16) &&& bc_m 15 k = bc_map (fun b => (f b + f b / 16) &&& 15) k n
  | 0, _ => Nat.and_zero _
  | k + 1, n => by
    have ih := bc_nib f hf k (n / 256)
    have hm : bc_map f k (n / 256) % 16 ≤ 4 := by
      cases k with
      | zero => exact Nat.zero_le _
      | succ j =>
        have h2 := hf (n / 256 % 256) (Nat.mod_lt _ (by decide))
        show (f (n / 256 % 256) + 256 * bc_map f j (n / 256 / 256)) % 16 ≤ 4
        omega
    have h1 := hf (n % 256) (Nat.mod_lt _ (by decide))
    show ((f (n % 256) + 256 * bc_map f k (n / 256)) + (f (n % 256) + 256 * bc_map f k (n / 256)) / 16) &&& (15 + 256 * bc_m 15 k) = ((f (n % 256) + f (n % 256) / 16) &&& 15) + 256 * bc_map (fun b => (f b + f b / 16) &&& 15) k (n / 256)
    rw [← ih, bc_and _ _ _ (by decide)]
    generalize bc_map f k (n / 256) = m at hm ⊢
    generalize f (n % 256) = b at h1 ⊢
    have e1 : (b + 256 * m + (b + 256 * m) / 16) % 256 = b + b / 16 + 16 * (m % 16) := by omega
    have e2 : (b + 256 * m + (b + 256 * m) / 16) / 256 = m + m / 16 := by omega
    rw [e1, e2, show (15 : Nat) = 2 ^ 4 - 1 from rfl, Nat.and_two_pow_sub_one_eq_mod, Nat.and_two_pow_sub_one_eq_mod, show (b + b / 16 + 16 * (m % 16)) % 2 ^ 4 = (b + b / 16) % 2 ^ 4 by omega]
def bc_pc (b : Nat) : Nat := fb_ct (fun i => b.testBit i) 8
def bc_1 (b : Nat) : Nat := b - (b / 2 &&& 85)
def bc_2 (b : Nat) : Nat := (bc_1 b / 1 &&& 51) + (bc_1 b / 4 &&& 51)
theorem bc_all : ∀ b, b < 256 → bc_1 b < 256 ∧ bc_1 b + (b / 2 &&& 85) = b ∧ bc_2 b ≤ 68 ∧ bc_2 b % 16 ≤ 4 ∧ (bc_2 b + bc_2 b / 16) &&& 15 = bc_pc b ∧ bc_pc b ≤ 8 := by decide +kernel
theorem bc_h2 : ∀ b, b < 256 → ∀ t, t < 2 → (b / 2 + 256 / 2 * t) &&& 85 = b / 2 &&& 85 := by decide +kernel
theorem bc_h4 : ∀ b, b < 256 → ∀ t, t < 4 → (b / 4 + 256 / 4 * t) &&& 51 = b / 4 &&& 51 := by decide +kernel
theorem bc_h1 : ∀ b, b < 256 → ∀ t, t < 1 → (b / 1 + 256 / 1 * t) &&& 51 = b / 1 &&& 51 := by decide +kernel
/-- the three first steps -/
theorem bc_three {n : Nat} (h : n < 2 ^ 64) : ∃ s1 s2 : Nat, n / 2 &&& 6148914691236517205 ≤ n ∧ s1 = n - (n / 2 &&& 6148914691236517205) ∧ s2 = (s1 &&& 3689348814741910323) + (s1 / 4 &&& 3689348814741910323) ∧ (s2 + s2 / 16) &&& 1085102592571150095 = bc_map bc_pc 8 n ∧ s2 < 2 ^ 63 := by
  have a := bc_sh 2 85 (by decide) (by decide) bc_h2 8 n
  have b := bc_id 8 n h bc_1 (fun b => b / 2 &&& 85) (fun b hb => (bc_all b hb).2.1)
  rw [show bc_m 85 8 = 6148914691236517205 from rfl] at a
  have c1 := bc_sh 1 51 (by decide) (by decide) bc_h1 8 (bc_map bc_1 8 n)
  have c2 := bc_sh 4 51 (by decide) (by decide) bc_h4 8 (bc_map bc_1 8 n)
  rw [show bc_m 51 8 = 3689348814741910323 from rfl, bc_comp _ _ (fun b hb => (bc_all b hb).1)] at c1 c2
  rw [Nat.div_one] at c1
  have d := bc_add (fun b => bc_1 b / 1 &&& 51) (fun b => bc_1 b / 4 &&& 51) 8 n
  have e := bc_nib bc_2 (fun b hb => ⟨(bc_all b hb).2.2.1, (bc_all b hb).2.2.2.1⟩) 8 n
  rw [show bc_m 15 8 = 1085102592571150095 from rfl, bc_cong (fun b hb => (bc_all b hb).2.2.2.2.1)] at e
  refine ⟨bc_map bc_1 8 n, bc_map bc_2 8 n, by omega, by omega, ?_, e, ?_⟩
  · rw [c1, c2]; exact d.symm
  · have hb : ∀ m, bc_2 (m % 256) ≤ 68 := fun m => (bc_all _ (Nat.mod_lt _ (by decide))).2.2.1
    simp only [bc_map]
    have := hb n
    have := hb (n / 256)
    have := hb (n / 256 / 256)
    have := hb (n / 256 / 256 / 256)
    have := hb (n / 256 / 256 / 256 / 256)
    have := hb (n / 256 / 256 / 256 / 256 / 256)
    have := hb (n / 256 / 256 / 256 / 256 / 256 / 256)
    have := hb (n / 256 / 256 / 256 / 256 / 256 / 256 / 256)
    omega
theorem bc_sum {y : Nat} {c0 c1 c2 c3 c4 c5 c6 c7 : Nat} (h0 : c0 ≤ 8) (h1 : c1 ≤ 8) (h2 : c2 ≤ 8) (h3 : c3 ≤ 8) (h4 : c4 ≤ 8) (h5 : c5 ≤ 8) (h6 : c6 ≤ 8) (h7 : c7 ≤ 8) (hy : y = c0 + 256 * (c1 + 256 * (c2 + 256 * (c3 + 256 * (c4 + 256 * (c5 + 256 * (c6 + 256 * (c7 + 256 * 0)))))))) : ∃ y1 y2 y3 : Nat, y1 = y + y / 256 ∧ y2 = y1 + y1 / 65536 ∧ y3 = y2 + y2 / 4294967296 ∧ y3 < 2 ^ 64 ∧ y3 % 128 = c0 + c1 + c2 + c3 + c4 + c5 + c6 + c7 := by
  refine ⟨(c0 + c1) + 256 * ((c1 + c2) + 256 * ((c2 + c3) + 256 * ((c3 + c4) + 256 * ((c4 + c5) + 256 * ((c5 + c6) + 256 * ((c6 + c7) + 256 * c7)))))), (c0 + c1 + c2 + c3) + 256 * ((c1 + c2 + c3 + c4) + 256 * ((c2 + c3 + c4 + c5) + 256 * ((c3 + c4 + c5 + c6) + 256 * ((c4 + c5 + c6 + c7) + 256 * ((c5 + c6 + c7) + 256 * ((c6 + c7) + 256 * c7)))))), (c0 + c1 + c2 + c3 + (c4 + c5 + c6 + c7)) + 256 * ((c1 + c2 + c3 + c4 + (c5 + c6 + c7)) + 256 * ((c2 + c3 + c4 + c5 + (c6 + c7)) + 256 * ((c3 + c4 + c5 + c6 + c7) + 256 * ((c4 + c5 + c6 + c7) + 256 * ((c5 + c6 + c7) + 256 * ((c6 + c7) + 256 * c7)))))), ?_, ?_, ?_, ?_, ?_⟩ <;> omega
theorem fb_split (f : Nat → Bool) (a : Nat) : ∀ b, fb_ct f (a + b) = fb_ct f a + fb_ct (fun i => f (a + i)) b
  | 0 => rfl
  | b + 1 => by
    show fb_ct f (a + b + 1) = _
    simp only [fb_ct]
    rw [fb_split f a b]
    omega
theorem bc_byte (n j : Nat) : fb_ct (fun i => n.testBit (8 * j + i)) 8 = bc_pc (n / 256 ^ j % 256) := by
  unfold bc_pc
  have e : ∀ i, i < 8 → n.testBit (8 * j + i) = (n / 256 ^ j % 256).testBit i := fun i hi => by
    rw [show (256 : Nat) = 2 ^ 8 from rfl, Nat.testBit_mod_two_pow, decide_eq_true hi, Bool.true_and, ← Nat.pow_mul, Nat.testBit_div_two_pow, Nat.add_comm]
  simp only [fb_ct, e 0 (by decide), e 1 (by decide), e 2 (by decide), e 3 (by decide), e 4 (by decide), e 5 (by decide), e 6 (by decide), e 7 (by decide)]
theorem lpop_bytes (x : Int64) : lpop x = bc_pc (x.toBitVec.toNat / 256 ^ 0 % 256) + bc_pc (x.toBitVec.toNat / 256 ^ 1 % 256) + bc_pc (x.toBitVec.toNat / 256 ^ 2 % 256) + bc_pc (x.toBitVec.toNat / 256 ^ 3 % 256) + bc_pc (x.toBitVec.toNat / 256 ^ 4 % 256) + bc_pc (x.toBitVec.toNat / 256 ^ 5 % 256) + bc_pc (x.toBitVec.toNat / 256 ^ 6 % 256) + bc_pc (x.toBitVec.toNat / 256 ^ 7 % 256) := by
  have h : ∀ f : Nat → Bool, fb_ct f 64 = fb_ct (fun i => f (8 * 0 + i)) 8 + fb_ct (fun i => f (8 * 1 + i)) 8 + fb_ct (fun i => f (8 * 2 + i)) 8 + fb_ct (fun i => f (8 * 3 + i)) 8 + fb_ct (fun i => f (8 * 4 + i)) 8 + fb_ct (fun i => f (8 * 5 + i)) 8 + fb_ct (fun i => f (8 * 6 + i)) 8 + fb_ct (fun i => f (8 * 7 + i)) 8 := fun f => by
    rw [show 64 = 8 + 8 + 8 + 8 + 8 + 8 + 8 + 8 from rfl, fb_split, fb_split, fb_split, fb_split, fb_split, fb_split, fb_split]
    simp only [Nat.mul_zero, Nat.zero_add, Nat.reduceMul, Nat.reduceAdd]
  show fb_ct (fun i => x.toBitVec.toNat.testBit i) 64 = _
  rw [h]
  simp only [bc_byte]
def un (x : Int64) : Nat := x.toBitVec.toNat
theorem un_lt (x : Int64) : un x < 2 ^ 64 := x.toBitVec.isLt
theorem un_and (x y : Int64) : un (x &&& y) = un x &&& un y := by unfold un; rw [Int64.toBitVec_and, BitVec.toNat_and]
theorem un_add {x y : Int64} (h : un x + un y < 2 ^ 64) : un (x + y) = un x + un y := by
  unfold un at h ⊢
  rw [Int64.toBitVec_add, BitVec.toNat_add, Nat.mod_eq_of_lt h]
theorem un_sub {x y : Int64} (h : un y ≤ un x) : un (x - y) = un x - un y := by
  unfold un at h ⊢
  have := x.toBitVec.isLt
  rw [Int64.toBitVec_sub, BitVec.toNat_sub]
  omega
theorem un_ushr {x : Int64} {c : Nat} (hc : c < 64) : un (zlushr x (nI c)) = un x / 2 ^ c := by
  show (x.toUInt64.toBitVec >>> (((nI c).toInt64.toUInt64 &&& Int64.toUInt64 63).toBitVec % 64#64)).toNat = _
  rw [BitVec.ushiftRight_eq', lb_ushr_s c hc, BitVec.toNat_ushiftRight, Nat.shiftRight_eq_div_pow]
  rfl
theorem un_127 (x : Int64) : x.toInt32 &&& 127 = nI (un x % 128) := by
  apply Int32.toBitVec_inj.mp
  apply BitVec.eq_of_toNat_eq
  have h1 : (x.toInt32).toBitVec.toNat = un x % 2 ^ 32 := by rw [Int64.toBitVec_toInt32, BitVec.signExtend_eq_setWidth_of_le _ (by decide), BitVec.toNat_setWidth]; rfl
  rw [Int32.toBitVec_and, BitVec.toNat_and, h1, show (127 : Int32).toBitVec.toNat = 2 ^ 7 - 1 from rfl, Nat.and_two_pow_sub_one_eq_mod, pk_tn (by have := Nat.mod_lt (un x) (show 0 < 128 by decide); omega)]
  omega
def jb_1 (x : Int64) : Int64 := x - (zlushr x 1 &&& 6148914691236517205)
def jb_2 (x : Int64) : Int64 := (x &&& 3689348814741910323) + (zlushr x 2 &&& 3689348814741910323)
def jb_3 (x : Int64) : Int64 := (x + zlushr x 4) &&& 1085102592571150095
theorem bit_count (x : Int64) : (jb_3 (jb_2 (jb_1 x)) + zlushr (jb_3 (jb_2 (jb_1 x))) 8 + zlushr (jb_3 (jb_2 (jb_1 x)) + zlushr (jb_3 (jb_2 (jb_1 x))) 8) 16 + zlushr (jb_3 (jb_2 (jb_1 x)) + zlushr (jb_3 (jb_2 (jb_1 x))) 8 + zlushr (jb_3 (jb_2 (jb_1 x)) + zlushr (jb_3 (jb_2 (jb_1 x))) 8) 16) 32).toInt32 &&& 127 = nI (lpop x) := by
  obtain ⟨s1, s2, hle, e1, e2, e3, h2⟩ := bc_three (un_lt x)
  have hx := un_lt x
  have u1 : un (jb_1 x) = s1 := by
    unfold jb_1
    have : un (zlushr x 1 &&& 6148914691236517205) = un x / 2 &&& 6148914691236517205 := by rw [un_and, show (1 : Int32) = nI 1 from rfl, un_ushr (by decide)]; rfl
    rw [un_sub (by rw [this]; exact hle), this, e1]
  have l1 : s1 < 2 ^ 64 := by omega
  have u2 : un (jb_2 (jb_1 x)) = s2 := by
    unfold jb_2
    have a1 : un (jb_1 x &&& 3689348814741910323) = s1 &&& 3689348814741910323 := by rw [un_and, u1]; rfl
    have a2 : un (zlushr (jb_1 x) 2 &&& 3689348814741910323) = s1 / 4 &&& 3689348814741910323 := by rw [un_and, show (2 : Int32) = nI 2 from rfl, un_ushr (by decide), u1]; rfl
    rw [un_add (by rw [a1, a2, ← e2]; omega), a1, a2, e2]
  have u3 : un (jb_3 (jb_2 (jb_1 x))) = bc_map bc_pc 8 (un x) := by
    unfold jb_3
    have a1 : un (zlushr (jb_2 (jb_1 x)) 4) = s2 / 16 := by rw [show (4 : Int32) = nI 4 from rfl, un_ushr (by decide), u2]
    rw [un_and, un_add (by rw [u2, a1]; omega), u2, a1]
    exact e3
  generalize jb_3 (jb_2 (jb_1 x)) = y at u3 ⊢
  have hp : ∀ m, bc_pc (m % 256) ≤ 8 := fun m => (bc_all _ (Nat.mod_lt _ (by decide))).2.2.2.2.2
  obtain ⟨y1, y2, y3, f1, f2, f3, hl, hs⟩ := bc_sum (y := un y) (hp (un x)) (hp (un x / 256)) (hp (un x / 256 / 256)) (hp (un x / 256 / 256 / 256)) (hp (un x / 256 / 256 / 256 / 256)) (hp (un x / 256 / 256 / 256 / 256 / 256)) (hp (un x / 256 / 256 / 256 / 256 / 256 / 256)) (hp (un x / 256 / 256 / 256 / 256 / 256 / 256 / 256)) (by rw [u3]; rfl)
  have v1 : un (y + zlushr y 8) = y1 := by
    have a1 : un (zlushr y 8) = un y / 256 := by rw [show (8 : Int32) = nI 8 from rfl, un_ushr (by decide)]
    rw [un_add (by rw [a1]; omega), a1, f1]
  generalize y + zlushr y 8 = w at v1 ⊢
  have v2 : un (w + zlushr w 16) = y2 := by
    have a1 : un (zlushr w 16) = y1 / 65536 := by rw [show (16 : Int32) = nI 16 from rfl, un_ushr (by decide), v1]
    rw [un_add (by rw [a1, v1]; omega), a1, v1, f2]
  generalize w + zlushr w 16 = z at v2 ⊢
  have v3 : un (z + zlushr z 32) = y3 := by
    have a1 : un (zlushr z 32) = y2 / 4294967296 := by rw [show (32 : Int32) = nI 32 from rfl, un_ushr (by decide), v2]
    rw [un_add (by rw [a1, v2]; omega), a1, v2, f3]
  rw [un_127, v3, hs, lpop_bytes]
  have ed : ∀ m a, m / 256 ^ (a + 1) = m / 256 ^ a / 256 := fun m a => by rw [Nat.div_div_eq_div_mul, ← Nat.pow_succ]
  congr 1
  show _ = bc_pc (un x / 256 ^ 0 % 256) + bc_pc (un x / 256 ^ 1 % 256) + bc_pc (un x / 256 ^ 2 % 256) + bc_pc (un x / 256 ^ 3 % 256) + bc_pc (un x / 256 ^ 4 % 256) + bc_pc (un x / 256 ^ 5 % 256) + bc_pc (un x / 256 ^ 6 % 256) + bc_pc (un x / 256 ^ 7 % 256)
  rw [ed _ 6, ed _ 5, ed _ 4, ed _ 3, ed _ 2, ed _ 1, ed _ 0, Nat.pow_zero, Nat.div_one]
