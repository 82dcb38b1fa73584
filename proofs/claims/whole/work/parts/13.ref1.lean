/-! the reference: small methods -/
def zin (v a b : Int32) : Int32 := if v < a then 0 else if b < v then 0 else 1
def zheld (v a b : Int32) : Int32 := if v < a then a else if b < v then b else v
def zE (k : Nat) : Int32 := -1000000000 - nI k
theorem zin_01 (v a b : Int32) : zin v a b = 0 ∨ zin v a b = 1 := by unfold zin; split <;> (try split) <;> simp
theorem zin_z (r : Int32) (h : r = 0 ∨ r = 1) : narrow .boolean (.int r) = .int r := by rcases h with rfl | rfl <;> rfl
theorem zin_1 {v a b : Int32} (h : ¬ zin v a b = 0) : a ≤ v ∧ v ≤ b := by
  unfold zin at h
  by_cases h1 : v < a
  · rw [if_pos h1] at h; exact absurd rfl h
  · rw [if_neg h1] at h
    by_cases h2 : b < v
    · rw [if_pos h2] at h; exact absurd rfl h
    · exact ⟨Int32.not_lt.mp h1, Int32.not_lt.mp h2⟩
/-- in range 0 .. n - 1, as a natural -/
theorem zin_nat {v : Int32} {n : Nat} (hn : n < 2 ^ 30) (h : ¬ zin v 0 (nI n - 1) = 0) : ∃ a : Nat, a < n ∧ v = nI a := by
  have h1 := zin_1 h
  have h2 := zi_le h1.1
  have h3 := zi_le h1.2
  have h4 : (nI n - 1).toInt = (n : Int) - 1 := pk_sub_toInt (b := 1) hn (by decide)
  rw [h4] at h3
  obtain ⟨k, hk, e⟩ := zle_of (x := v) (n := n - 1) h2 (by omega) (by omega)
  have h5 : (0 : Int32).toInt = 0 := rfl
  refine ⟨k, by omega, e⟩
theorem zin_lit {v b : Int32} {n : Nat} (hb : b.toInt = n) (hn : n < 2 ^ 31) (h : ¬ zin v 0 b = 0) : ∃ a : Nat, a ≤ n ∧ v = nI a := by
  have h1 := zin_1 h
  have h2 := zi_le h1.1
  have h3 := zi_le h1.2
  obtain ⟨k, hk, e⟩ := zle_of (x := v) (n := n) h2 (by omega) hn
  exact ⟨k, hk, e⟩
theorem zin_ok {a n : Nat} (h : a < n) (hn : n < 2 ^ 30) : zin (nI a) 0 (nI n - 1) = 1 := by
  unfold zin
  rw [if_neg (nI_pos (by omega))]
  rw [if_neg]
  rw [Int32.lt_iff_toInt_lt, nI_toInt (by omega), show nI n - 1 = nI n - nI 1 from rfl, pk_sub_toInt (b := 1) hn (by decide)]
  omega
set_option maxHeartbeats 4000000 in
set_option maxRecDepth 100000 in
theorem c_X8_in {B : zB} (hB : znn B = 95) (M : zM) (N : zN) (v a b : Int32) : zCi B (zg B M N) yX8_in cX8_in 3 (some .boolean) 0 [.int v, .int a, .int b] (fun r g' => g' = zg B M N ∧ r = zin v a b) := by
  refine zCi_of (by decide +kernel) (Nat.le_of_ble_eq_true rfl) .boolean rfl (fun r _ h => zin_z r (by rw [h.2]; exact zin_01 _ _ _)) ?_
  intro X o kret
  show zW X B (zg B M N) 0 [(0, .int v), (1, .int a), (2, .int b)] []
  refine z_iload_n (j := 0) o dX8_in_0 rfl ?_
  refine z_iload_n (j := 1) o dX8_in_1 rfl ?_
  refine z_icmplt (tgt := 14) o dX8_in_2 (by decide) (fun c1 => ?_) (fun c1 => ?_)
  · refine z_iconst (v := 0) o dX8_in_14 (by decide) ?_
    exact kret _ _ _ _ dX8_in_15 ⟨rfl, by unfold zin; simp [*]⟩
  · refine z_iload_n (j := 0) o dX8_in_5 rfl ?_
    refine z_iload_n (j := 2) o dX8_in_6 rfl ?_
    refine z_icmpgt (tgt := 14) o dX8_in_7 (by decide) (fun c2 => ?_) (fun c2 => ?_)
    · refine z_iconst (v := 0) o dX8_in_14 (by decide) ?_
      exact kret _ _ _ _ dX8_in_15 ⟨rfl, by unfold zin; simp [*]⟩
    · refine z_iconst (v := 1) o dX8_in_10 (by decide) ?_
      refine z_goto (tgt := 15) o dX8_in_11 (by decide) ?_
      exact kret _ _ _ _ dX8_in_15 ⟨rfl, by unfold zin; simp [*]⟩

set_option maxHeartbeats 4000000 in
set_option maxRecDepth 100000 in
theorem c_X8_held {B : zB} (hB : znn B = 95) (M : zM) (N : zN) (v a b : Int32) : zCi B (zg B M N) yX8_held cX8_held 3 (some .int) 0 [.int v, .int a, .int b] (fun r g' => g' = zg B M N ∧ r = zheld v a b) := by
  refine zCi_of (by decide +kernel) (Nat.le_of_ble_eq_true rfl) .int rfl (fun _ _ _ => rfl) ?_
  intro X o kret
  show zW X B (zg B M N) 0 [(0, .int v), (1, .int a), (2, .int b)] []
  refine z_iload_n (j := 0) o dX8_held_0 rfl ?_
  refine z_iload_n (j := 1) o dX8_held_1 rfl ?_
  refine z_icmpge (tgt := 9) o dX8_held_2 (by decide) (fun c1 => ?_) (fun c1 => ?_)
  · refine z_iload_n (j := 0) o dX8_held_9 rfl ?_
    refine z_iload_n (j := 2) o dX8_held_10 rfl ?_
    refine z_icmple (tgt := 18) o dX8_held_11 (by decide) (fun c2 => ?_) (fun c2 => ?_)
    · refine z_iload_n (j := 0) o dX8_held_18 rfl ?_
      exact kret _ _ _ _ dX8_held_19 ⟨rfl, by unfold zheld; simp [*]⟩
    · refine z_iload_n (j := 2) o dX8_held_14 rfl ?_
      refine z_goto (tgt := 19) o dX8_held_15 (by decide) ?_
      exact kret _ _ _ _ dX8_held_19 ⟨rfl, by unfold zheld; simp [*]⟩
  · refine z_iload_n (j := 1) o dX8_held_5 rfl ?_
    refine z_goto (tgt := 19) o dX8_held_6 (by decide) ?_
    exact kret _ _ _ _ dX8_held_19 ⟨rfl, by unfold zheld; simp [*]⟩

set_option maxHeartbeats 4000000 in
set_option maxRecDepth 100000 in
theorem c_X8_isCell {B : zB} (hB : znn B = 95) (M : zM) (N : zN) (c : Int32) : zCi B (zg B M N) yX8_isCell cX8_isCell 1 (some .boolean) 1 [.int c] (fun r g' => g' = zg B M N ∧ r = zin c 0 63) := by
  refine zCi_of (by decide +kernel) (Nat.le_of_ble_eq_true rfl) .boolean rfl (fun r _ h => zin_z r (by rw [h.2]; exact zin_01 _ _ _)) ?_
  intro X o kret
  show zW X B (zg B M N) 0 [(0, .int c)] []
  refine z_iload_n (j := 0) o dX8_isCell_0 rfl ?_
  refine z_iconst (v := 0) o dX8_isCell_1 (by decide) ?_
  refine z_bipush (v := 63) o dX8_isCell_2 (by decide) ?_
  refine z_callSi (As := [.int c, .int 0, .int 63]) (n := 3) (st := []) o dX8_isCell_4 (c_X8_in hB M N c 0 63) zc_X8_51 (by decide) rfl rfl (Nat.le_of_ble_eq_true rfl) (fun r1 g2 p3 => ?_)
  obtain ⟨rfl, rfl⟩ := p3
  exact kret _ _ _ _ dX8_isCell_7 ⟨rfl, rfl⟩

set_option maxHeartbeats 4000000 in
set_option maxRecDepth 100000 in
theorem c_X8_isKm {B : zB} (hB : znn B = 95) (M : zM) (N : zN) (c : Int32) : zCi B (zg B M N) yX8_isKm cX8_isKm 1 (some .boolean) 1 [.int c] (fun r g' => g' = zg B M N ∧ r = zin c 0 69) := by
  refine zCi_of (by decide +kernel) (Nat.le_of_ble_eq_true rfl) .boolean rfl (fun r _ h => zin_z r (by rw [h.2]; exact zin_01 _ _ _)) ?_
  intro X o kret
  show zW X B (zg B M N) 0 [(0, .int c)] []
  refine z_iload_n (j := 0) o dX8_isKm_0 rfl ?_
  refine z_iconst (v := 0) o dX8_isKm_1 (by decide) ?_
  refine z_bipush (v := 69) o dX8_isKm_2 (by decide) ?_
  refine z_callSi (As := [.int c, .int 0, .int 69]) (n := 3) (st := []) o dX8_isKm_4 (c_X8_in hB M N c 0 69) zc_X8_51 (by decide) rfl rfl (Nat.le_of_ble_eq_true rfl) (fun r1 g2 p3 => ?_)
  obtain ⟨rfl, rfl⟩ := p3
  exact kret _ _ _ _ dX8_isKm_7 ⟨rfl, rfl⟩

set_option maxHeartbeats 4000000 in
set_option maxRecDepth 100000 in
theorem c_X8_isSheet {B : zB} (hB : znn B = 95) (M : zM) (N : zN) (c : Int32) : zCi B (zg B M N) yX8_isSheet cX8_isSheet 1 (some .boolean) 1 [.int c] (fun r g' => g' = zg B M N ∧ r = zin c 0 3) := by
  refine zCi_of (by decide +kernel) (Nat.le_of_ble_eq_true rfl) .boolean rfl (fun r _ h => zin_z r (by rw [h.2]; exact zin_01 _ _ _)) ?_
  intro X o kret
  show zW X B (zg B M N) 0 [(0, .int c)] []
  refine z_iload_n (j := 0) o dX8_isSheet_0 rfl ?_
  refine z_iconst (v := 0) o dX8_isSheet_1 (by decide) ?_
  refine z_iconst (v := 3) o dX8_isSheet_2 (by decide) ?_
  refine z_callSi (As := [.int c, .int 0, .int 3]) (n := 3) (st := []) o dX8_isSheet_3 (c_X8_in hB M N c 0 3) zc_X8_51 (by decide) rfl rfl (Nat.le_of_ble_eq_true rfl) (fun r1 g2 p3 => ?_)
  obtain ⟨rfl, rfl⟩ := p3
  exact kret _ _ _ _ dX8_isSheet_6 ⟨rfl, rfl⟩

set_option maxHeartbeats 4000000 in
set_option maxRecDepth 100000 in
theorem c_X8_of {B : zB} (hB : znn B = 95) (M : zM) (N : zN) (a b : Nat) (h : 6 + 13 * a + b < 524) : zCi B (zg B M N) yX8_of cX8_of 3 (some .int) 0 [zref B 82, .int (nI a), .int (nI b)] (fun r g' => g' = zg B M N ∧ r = M 83 (6 + 13 * a + b)) := by
  refine zCi_of (by decide +kernel) (Nat.le_of_ble_eq_true rfl) .int rfl (fun _ _ _ => rfl) ?_
  intro X o kret
  show zW X B (zg B M N) 0 [(0, zref B 82), (1, .int (nI a)), (2, .int (nI b))] []
  refine z_aload_n (j := 0) o dX8_of_0 rfl ?_
  refine zo_get (i := 82) o hB dX8_of_1 zf_X8_9 rfl (by decide) rfl ?_
  refine z_bipush (v := 6) o dX8_of_4 (by decide) ?_
  refine z_bipush (v := 13) o dX8_of_6 (by decide) ?_
  refine z_iload_n (j := 1) o dX8_of_8 rfl ?_
  refine z_imul o dX8_of_9 ?_
  refine zo_rw (y := nI (13 * a)) (zn_mul (rfl) (rfl)) ?_
  refine z_iadd o dX8_of_10 ?_
  refine zo_rw (y := nI (6 + 13 * a)) (zn_add (rfl) (rfl)) ?_
  refine z_iload_n (j := 2) o dX8_of_11 rfl ?_
  refine z_iadd o dX8_of_12 ?_
  refine zo_rw (y := nI (6 + 13 * a + b)) (zn_add (rfl) (rfl)) ?_
  refine zo_iald (i := 83) (j := 6 + 13 * a + b) o hB dX8_of_13 rfl (show 6 + 13 * a + b < 524 by omega) (by decide) ?_
  exact kret _ _ _ _ dX8_of_14 ⟨rfl, rfl⟩

set_option maxHeartbeats 4000000 in
set_option maxRecDepth 100000 in
theorem c_X8_lets {B : zB} (hB : znn B = 95) (M : zM) (N : zN) (a b : Nat) (v : Int32) (h : 6 + 13 * a + b < 524) : zCv B (zg B M N) yX8_lets cX8_lets 4 none 0 [zref B 82, .int (nI a), .int (nI b), .int v] (fun g' => g' = zg B (zu M 83 (6 + 13 * a + b) v) N) := by
  refine zCv_of (by decide +kernel) (Nat.le_of_ble_eq_true rfl) ?_
  intro X o kret
  show zW X B (zg B M N) 0 [(0, zref B 82), (1, .int (nI a)), (2, .int (nI b)), (3, .int v)] []
  refine z_aload_n (j := 0) o dX8_lets_0 rfl ?_
  refine zo_get (i := 82) o hB dX8_lets_1 zf_X8_9 rfl (by decide) rfl ?_
  refine z_bipush (v := 6) o dX8_lets_4 (by decide) ?_
  refine z_bipush (v := 13) o dX8_lets_6 (by decide) ?_
  refine z_iload_n (j := 1) o dX8_lets_8 rfl ?_
  refine z_imul o dX8_lets_9 ?_
  refine zo_rw (y := nI (13 * a)) (zn_mul (rfl) (rfl)) ?_
  refine z_iadd o dX8_lets_10 ?_
  refine zo_rw (y := nI (6 + 13 * a)) (zn_add (rfl) (rfl)) ?_
  refine z_iload_n (j := 2) o dX8_lets_11 rfl ?_
  refine z_iadd o dX8_lets_12 ?_
  refine zo_rw (y := nI (6 + 13 * a + b)) (zn_add (rfl) (rfl)) ?_
  refine z_iload_n (j := 3) o dX8_lets_13 rfl ?_
  refine zo_iast (i := 83) (j := 6 + 13 * a + b) o hB dX8_lets_14 rfl (show 6 + 13 * a + b < 524 by omega) (by decide) ?_
  refine zo_nm (fun M1 hM1 => ?_)
  exact kret _ _ _ dX8_lets_15 (by first | rfl | (subst_vars; rfl))

set_option maxHeartbeats 4000000 in
set_option maxRecDepth 100000 in
theorem c_X8_becomes {B : zB} (hB : znn B = 95) (M : zM) (N : zN) (k : Nat) (v : Int32) (h : k < 524) : zCi B (zg B M N) yX8_becomes cX8_becomes 4 (some .int) 0 [zref B 82, .int (nI k), .int v] (fun r g' => g' = zg B (zu M 83 k v) N ∧ r = M 83 k) := by
  refine zCi_of (by decide +kernel) (Nat.le_of_ble_eq_true rfl) .int rfl (fun _ _ _ => rfl) ?_
  intro X o kret
  show zW X B (zg B M N) 0 [(0, zref B 82), (1, .int (nI k)), (2, .int v)] []
  refine z_aload_n (j := 0) o dX8_becomes_0 rfl ?_
  refine zo_get (i := 82) o hB dX8_becomes_1 zf_X8_9 rfl (by decide) rfl ?_
  refine z_iload_n (j := 1) o dX8_becomes_4 rfl ?_
  refine zo_iald (i := 83) (j := k) o hB dX8_becomes_5 rfl (show k < 524 by omega) (by decide) ?_
  refine z_istore_n (i := 3) (lv2 := [(3, .int (M 83 k)), (0, zref B 82), (1, .int (nI k)), (2, .int v)]) o dX8_becomes_6 rfl (by decide) rfl ?_
  refine z_aload_n (j := 1) o dX8_becomes_7 rfl ?_
  refine zo_get (i := 82) o hB dX8_becomes_8 zf_X8_9 rfl (by decide) rfl ?_
  refine z_iload_n (j := 2) o dX8_becomes_11 rfl ?_
  refine z_iload_n (j := 3) o dX8_becomes_12 rfl ?_
  refine zo_iast (i := 83) (j := k) o hB dX8_becomes_13 rfl (show k < 524 by omega) (by decide) ?_
  refine zo_nm (fun M1 hM1 => ?_)
  refine z_iload_n (j := 0) o dX8_becomes_14 rfl ?_
  exact kret _ _ _ _ dX8_becomes_15 ⟨by subst_vars; rfl, rfl⟩

theorem zs_ss (a b : Int32) : a - (a - b) = b := by
  rw [Int32.sub_eq_add_neg a (a - b), Int32.sub_eq_add_neg a b, Int32.neg_add, Int32.sub_eq_add_neg (-a), Int32.neg_neg, ← Int32.add_assoc, Int32.add_right_neg, Int32.zero_add]
theorem zE_sub (k : Nat) : (-1000000000 : Int32) - zE k = nI k := zs_ss _ _
set_option maxHeartbeats 4000000 in
set_option maxRecDepth 100000 in
theorem c_X8_error {B : zB} (hB : znn B = 95) (M : zM) (N : zN) (k : Nat) (h : k < 7) : zCi B (zg B M N) yX8_error cX8_error 2 (some .int) 0 [zref B 82, .int (zE k)] (fun r g' => g' = zg B (zu M 86 k (M 86 k + 1)) N ∧ r = zE k) := by
  refine zCi_of (by decide +kernel) (Nat.le_of_ble_eq_true rfl) .int rfl (fun _ _ _ => rfl) ?_
  intro X o kret
  show zW X B (zg B M N) 0 [(0, zref B 82), (1, .int (zE k))] []
  refine z_aload_n (j := 0) o dX8_error_0 rfl ?_
  refine zo_get (i := 82) o hB dX8_error_1 zf_X8_19 rfl (by decide) rfl ?_
  refine z_ldc (v := (-1000000000)) o dX8_error_4 zk_X8_46 ?_
  refine z_iload_n (j := 1) o dX8_error_6 rfl ?_
  refine z_isub o dX8_error_7 ?_
  refine zo_rw (y := nI k) (zE_sub k) ?_
  refine z_dup2 o dX8_error_8 rfl rfl ?_
  refine zo_iald (i := 86) (j := k) o hB dX8_error_9 rfl (show k < 7 by omega) (by decide) ?_
  refine z_iconst (v := 1) o dX8_error_10 (by decide) ?_
  refine z_iadd o dX8_error_11 ?_
  refine zo_iast (i := 86) (j := k) o hB dX8_error_12 rfl (show k < 7 by omega) (by decide) ?_
  refine zo_nm (fun M1 hM1 => ?_)
  refine z_iload_n (j := 1) o dX8_error_13 rfl ?_
  exact kret _ _ _ _ dX8_error_14 ⟨by subst_vars; rfl, rfl⟩

set_option maxHeartbeats 4000000 in
set_option maxRecDepth 100000 in
theorem c_X8_isFence {B : zB} (hB : znn B = 95) (M : zM) (N : zN) (f : Int32) : zCi B (zg B M N) yX8_isFence cX8_isFence 2 (some .boolean) 1 [zref B 82, .int f] (fun r g' => g' = zg B M N ∧ r = zin f 0 (M 83 2 - 1)) := by
  refine zCi_of (by decide +kernel) (Nat.le_of_ble_eq_true rfl) .boolean rfl (fun r _ h => zin_z r (by rw [h.2]; exact zin_01 _ _ _)) ?_
  intro X o kret
  show zW X B (zg B M N) 0 [(0, zref B 82), (1, .int f)] []
  refine z_iload_n (j := 1) o dX8_isFence_0 rfl ?_
  refine z_iconst (v := 0) o dX8_isFence_1 (by decide) ?_
  refine z_aload_n (j := 0) o dX8_isFence_2 rfl ?_
  refine zo_get (i := 82) o hB dX8_isFence_3 zf_X8_9 rfl (by decide) rfl ?_
  refine z_iconst (v := 2) o dX8_isFence_6 (by decide) ?_
  refine zo_iald (i := 83) (j := 2) o hB dX8_isFence_7 rfl (show 2 < 524 by omega) (by decide) ?_
  refine z_iconst (v := 1) o dX8_isFence_8 (by decide) ?_
  refine z_isub o dX8_isFence_9 ?_
  refine z_callSi (As := [.int f, .int 0, .int ((M 83 2) - 1)]) (n := 3) (st := []) o dX8_isFence_10 (c_X8_in hB M N f 0 ((M 83 2) - 1)) zc_X8_51 (by decide) rfl rfl (Nat.le_of_ble_eq_true rfl) (fun r1 g2 p3 => ?_)
  obtain ⟨rfl, rfl⟩ := p3
  exact kret _ _ _ _ dX8_isFence_13 ⟨rfl, rfl⟩

set_option maxHeartbeats 4000000 in
set_option maxRecDepth 100000 in
theorem c_X8_isCow {B : zB} (hB : znn B = 95) (M : zM) (N : zN) (f : Int32) : zCi B (zg B M N) yX8_isCow cX8_isCow 2 (some .boolean) 1 [zref B 82, .int f] (fun r g' => g' = zg B M N ∧ r = zin f 0 (M 83 3 - 1)) := by
  refine zCi_of (by decide +kernel) (Nat.le_of_ble_eq_true rfl) .boolean rfl (fun r _ h => zin_z r (by rw [h.2]; exact zin_01 _ _ _)) ?_
  intro X o kret
  show zW X B (zg B M N) 0 [(0, zref B 82), (1, .int f)] []
  refine z_iload_n (j := 1) o dX8_isCow_0 rfl ?_
  refine z_iconst (v := 0) o dX8_isCow_1 (by decide) ?_
  refine z_aload_n (j := 0) o dX8_isCow_2 rfl ?_
  refine zo_get (i := 82) o hB dX8_isCow_3 zf_X8_9 rfl (by decide) rfl ?_
  refine z_iconst (v := 3) o dX8_isCow_6 (by decide) ?_
  refine zo_iald (i := 83) (j := 3) o hB dX8_isCow_7 rfl (show 3 < 524 by omega) (by decide) ?_
  refine z_iconst (v := 1) o dX8_isCow_8 (by decide) ?_
  refine z_isub o dX8_isCow_9 ?_
  refine z_callSi (As := [.int f, .int 0, .int ((M 83 3) - 1)]) (n := 3) (st := []) o dX8_isCow_10 (c_X8_in hB M N f 0 ((M 83 3) - 1)) zc_X8_51 (by decide) rfl rfl (Nat.le_of_ble_eq_true rfl) (fun r1 g2 p3 => ?_)
  obtain ⟨rfl, rfl⟩ := p3
  exact kret _ _ _ _ dX8_isCow_13 ⟨rfl, rfl⟩

def zirem (x y : Int32) : Int32 := x - x / y * y
def sp_next (c w : Int32) : Int32 := if w = 0 then (if c < 8 then -1 else c - 8) else if w = 1 then (if zirem c 8 = 7 then -1 else c + 1) else if w = 2 then (if 55 < c then -1 else c + 8) else if w = 3 then (if zirem c 8 = 0 then -1 else c - 1) else -1
set_option maxHeartbeats 4000000 in
set_option maxRecDepth 100000 in
theorem c_X8_next {B : zB} (hB : znn B = 95) (M : zM) (N : zN) (c w : Int32) : zCi B (zg B M N) yX8_next cX8_next 2 (some .int) 0 [.int c, .int w] (fun r g' => g' = zg B M N ∧ r = sp_next c w) := by
  refine zCi_of (by decide +kernel) (Nat.le_of_ble_eq_true rfl) .int rfl (fun _ _ _ => rfl) ?_
  intro X o kret
  show zW X B (zg B M N) 0 [(0, .int c), (1, .int w)] []
  refine z_iload_n (j := 1) o dX8_next_0 rfl ?_
  refine z_tcase 0 (tgt := 32) o dX8_next_1 (by decide) (by decide) rfl (by decide) (fun c1 => ?_) (fun c1 => ?_)
  · refine z_iload_n (j := 0) o dX8_next_32 rfl ?_
    refine z_bipush (v := 8) o dX8_next_33 (by decide) ?_
    refine z_icmpge (tgt := 42) o dX8_next_35 (by decide) (fun c2 => ?_) (fun c2 => ?_)
    · refine z_iload_n (j := 0) o dX8_next_42 rfl ?_
      refine z_bipush (v := 8) o dX8_next_43 (by decide) ?_
      refine z_isub o dX8_next_45 ?_
      exact kret _ _ _ _ dX8_next_46 ⟨rfl, by unfold sp_next zirem; simp [*]⟩
    · refine z_iconst (v := (-1)) o dX8_next_38 (by decide) ?_
      refine z_goto (tgt := 46) o dX8_next_39 (by decide) ?_
      exact kret _ _ _ _ dX8_next_46 ⟨rfl, by unfold sp_next zirem; simp [*]⟩
  refine z_tcase 1 (tgt := 47) o dX8_next_1 (by decide) (by decide) rfl (by decide) (fun c3 => ?_) (fun c3 => ?_)
  · refine z_iload_n (j := 0) o dX8_next_47 rfl ?_
    refine z_bipush (v := 8) o dX8_next_48 (by decide) ?_
    refine z_irem o dX8_next_50 (by decide) ?_
    refine z_bipush (v := 7) o dX8_next_51 (by decide) ?_
    refine z_icmpne (tgt := 60) o dX8_next_53 (by decide) (fun c4 => ?_) (fun c4 => ?_)
    · refine z_iload_n (j := 0) o dX8_next_60 rfl ?_
      refine z_iconst (v := 1) o dX8_next_61 (by decide) ?_
      refine z_iadd o dX8_next_62 ?_
      exact kret _ _ _ _ dX8_next_63 ⟨rfl, by unfold sp_next zirem; simp [*]⟩
    · refine z_iconst (v := (-1)) o dX8_next_56 (by decide) ?_
      refine z_goto (tgt := 63) o dX8_next_57 (by decide) ?_
      exact kret _ _ _ _ dX8_next_63 ⟨rfl, by unfold sp_next zirem; simp [*]⟩
  refine z_tcase 2 (tgt := 64) o dX8_next_1 (by decide) (by decide) rfl (by decide) (fun c5 => ?_) (fun c5 => ?_)
  · refine z_iload_n (j := 0) o dX8_next_64 rfl ?_
    refine z_bipush (v := 55) o dX8_next_65 (by decide) ?_
    refine z_icmple (tgt := 74) o dX8_next_67 (by decide) (fun c6 => ?_) (fun c6 => ?_)
    · refine z_iload_n (j := 0) o dX8_next_74 rfl ?_
      refine z_bipush (v := 8) o dX8_next_75 (by decide) ?_
      refine z_iadd o dX8_next_77 ?_
      exact kret _ _ _ _ dX8_next_78 ⟨rfl, by unfold sp_next zirem; simp [*]⟩
    · refine z_iconst (v := (-1)) o dX8_next_70 (by decide) ?_
      refine z_goto (tgt := 78) o dX8_next_71 (by decide) ?_
      exact kret _ _ _ _ dX8_next_78 ⟨rfl, by unfold sp_next zirem; simp [*]⟩
  refine z_tcase 3 (tgt := 79) o dX8_next_1 (by decide) (by decide) rfl (by decide) (fun c7 => ?_) (fun c7 => ?_)
  · refine z_iload_n (j := 0) o dX8_next_79 rfl ?_
    refine z_bipush (v := 8) o dX8_next_80 (by decide) ?_
    refine z_irem o dX8_next_82 (by decide) ?_
    refine z_ifne (tgt := 90) o dX8_next_83 (by decide) (fun c8 => ?_) (fun c8 => ?_)
    · refine z_iload_n (j := 0) o dX8_next_90 rfl ?_
      refine z_iconst (v := 1) o dX8_next_91 (by decide) ?_
      refine z_isub o dX8_next_92 ?_
      exact kret _ _ _ _ dX8_next_93 ⟨rfl, by unfold sp_next zirem; simp [*]⟩
    · refine z_iconst (v := (-1)) o dX8_next_86 (by decide) ?_
      refine z_goto (tgt := 93) o dX8_next_87 (by decide) ?_
      exact kret _ _ _ _ dX8_next_93 ⟨rfl, by unfold sp_next zirem; simp [*]⟩
  refine z_tdef (tgt := 94) o dX8_next_1 (by have := lv_neT (a := 0) c1 rfl; have := lv_neT (a := 1) c3 rfl; have := lv_neT (a := 2) c5 rfl; have := lv_neT (a := 3) c7 rfl; omega) (by decide) ?_
  refine z_iconst (v := (-1)) o dX8_next_94 (by decide) ?_
  exact kret _ _ _ _ dX8_next_95 ⟨rfl, by unfold sp_next zirem; simp [*]⟩

