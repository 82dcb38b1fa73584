/-! the reference: counts, sets of posts, sheets told -/
set_option maxHeartbeats 4000000 in
set_option maxRecDepth 100000 in
theorem c_X8_bits {B : zB} (hB : znn B = 95) (M : zM) (N : zN) (x : Int64) : zCi B (zg B M N) yX8_bits cX8_bits 5 (some .int) 0 [.long x] (fun r g' => g' = zg B M N ∧ r = nI (lpop x)) := by
  refine zCi_of (by decide +kernel) (Nat.le_of_ble_eq_true rfl) .int rfl (fun _ _ _ => rfl) ?_
  intro X o kret
  show zW X B (zg B M N) 0 [(0, .long x)] []
  refine z_iconst (v := 0) o dX8_bits_0 (by decide) ?_
  refine z_istore_n (i := 2) (lv2 := [(2, .int 0), (0, .long x)]) o dX8_bits_1 rfl (by decide) rfl ?_
  refine z_lload_n (j := 1) o dX8_bits_2 rfl ?_
  refine z_lstore_n (i := 3) (lv2 := [(3, .long x), (2, .int 0), (0, .long x)]) o dX8_bits_3 rfl (by decide) rfl ?_
  have LOOP : ∀ nq kq : Nat, ∀ rq : Int64, lpop rq = nq → kq + nq = lpop x → zW X B (zg B M N) 4 [(2, .int (nI kq)), (3, .long rq)] [] := by
    intro nq
    induction nq with
    | zero =>
      intro kq rq hrq hkq
      have hz : rq = 0 := Classical.byContradiction fun q => by have := lpop_next q; omega
      have hkz : kq = lpop x := by omega
      refine z_lload_n (j := 1) o dX8_bits_4 rfl ?_
      refine z_lconst (v := 0) o dX8_bits_5 (by decide) ?_
      refine z_lcmp o dX8_bits_6 ?_
      refine z_ifeq (tgt := 22) o dX8_bits_7 (by decide) (fun c1 => ?_) (fun c1 => ?_)
      · refine z_iload_n (j := 0) o dX8_bits_22 rfl ?_
        exact kret _ _ _ _ dX8_bits_23 ⟨rfl, by rw [hkz]⟩
      · exact absurd (lg0.mpr hz) c1
    | succ nq ih =>
      intro kq rq hrq hkq
      have hz : ¬ rq = 0 := fun q => by rw [q, lpop_0] at hrq; omega
      have hnx := lpop_next hz
      refine z_lload_n (j := 1) o dX8_bits_4 rfl ?_
      refine z_lconst (v := 0) o dX8_bits_5 (by decide) ?_
      refine z_lcmp o dX8_bits_6 ?_
      refine z_ifeq (tgt := 22) o dX8_bits_7 (by decide) (fun c2 => ?_) (fun c2 => ?_)
      · exact absurd (lg0.mp c2) hz
      · refine z_iinc (j := 0) (v := nI (kq + 1)) (lv2 := [(2, .int (nI (kq + 1))), (3, .long rq)]) o dX8_bits_10 rfl (zn_ofInt _) (by decide) rfl ?_
        refine z_lload_n (j := 1) o dX8_bits_13 rfl ?_
        refine z_lload_n (j := 1) o dX8_bits_14 rfl ?_
        refine z_lconst (v := 1) o dX8_bits_15 (by decide) ?_
        refine z_lsub o dX8_bits_16 ?_
        refine z_land o dX8_bits_17 ?_
        refine z_lstore_n (i := 3) (lv2 := [(3, .long (rq &&& (rq - 1))), (2, .int (nI (kq + 1)))]) o dX8_bits_18 rfl (by decide) rfl ?_
        refine z_goto (tgt := 4) o dX8_bits_19 (by decide) ?_
        refine zo_lv [1, 0] rfl ?_
        exact ih (kq + 1) _ (by omega) (by omega)
  refine zo_lv [1, 0] rfl ?_
  exact LOOP (lpop x) 0 x rfl (by omega)

set_option maxHeartbeats 4000000 in
set_option maxRecDepth 100000 in
theorem c_X8_countOf {B : zB} (hB : znn B = 95) (M : zM) (N : zN) (a : Nat) (ha : a + 64 ≤ 524) : zCi B (zg B M N) yX8_countOf cX8_countOf 4 (some .int) 0 [zref B 82, .int (nI a)] (fun r g' => g' = zg B M N ∧ r = sp_cnt (M 83) a 64) := by
  refine zCi_of (by decide +kernel) (Nat.le_of_ble_eq_true rfl) .int rfl (fun _ _ _ => rfl) ?_
  intro X o kret
  show zW X B (zg B M N) 0 [(0, zref B 82), (1, .int (nI a))] []
  refine z_iconst (v := 0) o dX8_countOf_0 (by decide) ?_
  refine z_istore_n (i := 2) (lv2 := [(2, .int 0), (0, zref B 82), (1, .int (nI a))]) o dX8_countOf_1 rfl (by decide) rfl ?_
  refine z_iconst (v := 0) o dX8_countOf_2 (by decide) ?_
  refine z_istore_n (i := 3) (lv2 := [(3, .int 0), (2, .int 0), (0, zref B 82), (1, .int (nI a))]) o dX8_countOf_3 rfl (by decide) rfl ?_
  have LOOP : ∀ nq kq : Nat, kq + nq = 64 → zW X B (zg B M N) 4 [(3, .int (nI kq)), (2, .int (sp_cnt (M 83) a kq)), (0, zref B 82), (1, .int (nI a))] [] := by
    intro nq
    induction nq with
    | zero =>
      intro kq hkkq
      obtain rfl : kq = 64 := by omega
      refine z_iload_n (j := 0) o dX8_countOf_4 rfl ?_
      refine z_bipush (v := 64) o dX8_countOf_5 (by decide) ?_
      refine z_icmpge (tgt := 27) o dX8_countOf_7 (by decide) (fun c1 => ?_) (fun c1 => ?_)
      · refine z_iload_n (j := 1) o dX8_countOf_27 rfl ?_
        exact kret _ _ _ _ dX8_countOf_28 ⟨rfl, rfl⟩
      · exact absurd c1 (nI_nlt (a := 64) (b := 64) (by omega) (by omega))
    | succ nq ihkq =>
      intro kq hkkq
      have hlkq : kq < 64 := by omega
      refine z_iload_n (j := 0) o dX8_countOf_4 rfl ?_
      refine z_bipush (v := 64) o dX8_countOf_5 (by decide) ?_
      refine z_icmpge (tgt := 27) o dX8_countOf_7 (by decide) (fun c2 => ?_) (fun c2 => ?_)
      · exact absurd (nI_lt (a := kq) (b := 64) (by omega) (by omega)) c2
      · refine z_iload_n (j := 1) o dX8_countOf_10 rfl ?_
        refine z_aload_n (j := 2) o dX8_countOf_11 rfl ?_
        refine zo_get (i := 82) o hB dX8_countOf_12 zf_X8_9 rfl (by decide) rfl ?_
        refine z_iload_n (j := 3) o dX8_countOf_15 rfl ?_
        refine z_iload_n (j := 0) o dX8_countOf_16 rfl ?_
        refine z_iadd o dX8_countOf_17 ?_
        refine zo_rw (y := nI (a + kq)) (zn_add (rfl) (rfl)) ?_
        refine zo_iald (i := 83) (j := a + kq) o hB dX8_countOf_18 rfl (show a + kq < 524 by omega) (by decide) ?_
        refine z_iadd o dX8_countOf_19 ?_
        refine z_istore_n (i := 2) (lv2 := [(2, .int ((sp_cnt (M 83) a kq) + (M 83 (a + kq)))), (3, .int (nI kq)), (0, zref B 82), (1, .int (nI a))]) o dX8_countOf_20 rfl (by decide) rfl ?_
        refine z_iinc (j := 1) (v := nI (kq + 1)) (lv2 := [(3, .int (nI (kq + 1))), (2, .int ((sp_cnt (M 83) a kq) + (M 83 (a + kq)))), (0, zref B 82), (1, .int (nI a))]) o dX8_countOf_21 rfl (zn_ofInt _) (by decide) rfl ?_
        refine z_goto (tgt := 4) o dX8_countOf_24 (by decide) ?_
        refine zo_lv [0, 1, 2, 3] rfl ?_
        exact ihkq (kq + 1) (by omega)
  exact LOOP 64 0 rfl

set_option maxHeartbeats 4000000 in
set_option maxRecDepth 100000 in
theorem c_X8_allPosts {B : zB} (hB : znn B = 95) (M : zM) (N : zN) (hok : zOkR (M 83)) : zCl B (zg B M N) yX8_allPosts cX8_allPosts 4 (some .long) 2 [zref B 82] (fun r g' => g' = zg B M N ∧ r = sp_allp (M 83) (sp_nf (M 83))) := by
  refine zCl_of (by decide +kernel) (Nat.le_of_ble_eq_true rfl) ?_
  intro X o kret
  show zW X B (zg B M N) 0 [(0, zref B 82)] []
  obtain ⟨hnf, hnf4⟩ := ok_nf2 hok
  refine z_lconst (v := 0) o dX8_allPosts_0 (by decide) ?_
  refine z_lstore_n (i := 1) (lv2 := [(1, .long 0), (0, zref B 82)]) o dX8_allPosts_1 rfl (by decide) rfl ?_
  refine z_iconst (v := 0) o dX8_allPosts_2 (by decide) ?_
  refine z_istore_n (i := 3) (lv2 := [(3, .int 0), (1, .long 0), (0, zref B 82)]) o dX8_allPosts_3 rfl (by decide) rfl ?_
  have LOOP : ∀ nq kq : Nat, kq + nq = sp_nf (M 83) → zW X B (zg B M N) 4 [(3, .int (nI kq)), (1, .long (sp_allp (M 83) kq)), (0, zref B 82)] [] := by
    intro nq
    induction nq with
    | zero =>
      intro kq hkkq
      have hqkq : sp_nf (M 83) = kq := by omega
      subst hqkq
      refine z_iload_n (j := 0) o dX8_allPosts_4 rfl ?_
      refine z_aload_n (j := 2) o dX8_allPosts_5 rfl ?_
      refine zo_get (i := 82) o hB dX8_allPosts_6 zf_X8_9 rfl (by decide) rfl ?_
      refine z_iconst (v := 2) o dX8_allPosts_9 (by decide) ?_
      refine zo_iald (i := 83) (j := 2) o hB dX8_allPosts_10 rfl (show 2 < 524 by omega) (by decide) ?_
      refine zo_rw (y := nI (sp_nf (M 83))) (hnf) ?_
      refine z_icmpge (tgt := 28) o dX8_allPosts_11 (by decide) (fun c1 => ?_) (fun c1 => ?_)
      · refine z_lload_n (j := 1) o dX8_allPosts_28 rfl ?_
        exact kret _ _ _ _ dX8_allPosts_29 ⟨rfl, rfl⟩
      · exact absurd c1 (nI_nlt (a := sp_nf (M 83)) (b := sp_nf (M 83)) (by omega) (by omega))
    | succ nq ihkq =>
      intro kq hkkq
      have hlkq : kq < sp_nf (M 83) := by omega
      refine z_iload_n (j := 0) o dX8_allPosts_4 rfl ?_
      refine z_aload_n (j := 2) o dX8_allPosts_5 rfl ?_
      refine zo_get (i := 82) o hB dX8_allPosts_6 zf_X8_9 rfl (by decide) rfl ?_
      refine z_iconst (v := 2) o dX8_allPosts_9 (by decide) ?_
      refine zo_iald (i := 83) (j := 2) o hB dX8_allPosts_10 rfl (show 2 < 524 by omega) (by decide) ?_
      refine zo_rw (y := nI (sp_nf (M 83))) (hnf) ?_
      refine z_icmpge (tgt := 28) o dX8_allPosts_11 (by decide) (fun c2 => ?_) (fun c2 => ?_)
      · exact absurd (nI_lt (a := kq) (b := sp_nf (M 83)) (by omega) (by omega)) c2
      · refine z_lload_n (j := 1) o dX8_allPosts_14 rfl ?_
        refine z_aload_n (j := 2) o dX8_allPosts_15 rfl ?_
        refine z_iload_n (j := 0) o dX8_allPosts_16 rfl ?_
        refine z_callVl (As := [.int (nI kq)]) (n := 1) (st := [.long (sp_allp (M 83) kq)]) o dX8_allPosts_17 (c_X8_postsOf hB M N kq _ (by omega) (ok_np2 hok (by omega)).1 (ok_np2 hok (by omega)).2) zc_X8_73 (by decide) (i := 82) (by rw [hB]; exact zsh_lt rfl (by decide)) (zg_o rfl (by decide)) rfl rfl rfl (Nat.le_of_ble_eq_true rfl) (fun r3 g4 p5 => ?_)
        obtain ⟨rfl, rfl⟩ := p5
        refine z_lor o dX8_allPosts_20 ?_
        refine z_lstore_n (i := 1) (lv2 := [(1, .long ((sp_allp (M 83) kq) ||| (sp_pset (M 83) kq))), (3, .int (nI kq)), (0, zref B 82)]) o dX8_allPosts_21 rfl (by decide) rfl ?_
        refine z_iinc (j := 1) (v := nI (kq + 1)) (lv2 := [(3, .int (nI (kq + 1))), (1, .long ((sp_allp (M 83) kq) ||| (sp_pset (M 83) kq))), (0, zref B 82)]) o dX8_allPosts_22 rfl (zn_ofInt _) (by decide) rfl ?_
        refine z_goto (tgt := 4) o dX8_allPosts_25 (by decide) ?_
        refine zo_lv [0, 1, 2] rfl ?_
        exact ihkq (kq + 1) (by omega)
  exact LOOP (sp_nf (M 83)) 0 (by omega)

def sp_isPost (ρ : Nat → Int32) (f p : Int32) : Int32 := if zin f 0 (ρ 2 - 1) = 0 then 0 else if zin p 0 (ρ (6 + 13 * zn f + 3) - 1) = 0 then 0 else 1
set_option maxHeartbeats 4000000 in
set_option maxRecDepth 100000 in
theorem c_X8_isPost {B : zB} (hB : znn B = 95) (M : zM) (N : zN) (f p : Int32) (hok : zOkR (M 83)) : zCi B (zg B M N) yX8_isPost cX8_isPost 3 (some .boolean) 2 [zref B 82, .int f, .int p] (fun r g' => g' = zg B M N ∧ r = sp_isPost (M 83) f p) := by
  refine zCi_of (by decide +kernel) (Nat.le_of_ble_eq_true rfl) .boolean rfl (fun r _ h => by rw [h.2]; unfold sp_isPost; (repeat' split) <;> rfl) ?_
  intro X o kret
  show zW X B (zg B M N) 0 [(0, zref B 82), (1, .int f), (2, .int p)] []
  obtain ⟨hnf, hnf4⟩ := ok_nf2 hok
  refine z_aload_n (j := 0) o dX8_isPost_0 rfl ?_
  refine z_iload_n (j := 1) o dX8_isPost_1 rfl ?_
  refine z_callVi (As := [.int f]) (n := 1) (st := []) o dX8_isPost_2 (c_X8_isFence hB M N f) zc_X8_106 (by decide) (i := 82) (by rw [hB]; exact zsh_lt rfl (by decide)) (zg_o rfl (by decide)) rfl rfl rfl (Nat.le_of_ble_eq_true rfl) (fun r1 g2 p3 => ?_)
  obtain ⟨rfl, rfl⟩ := p3
  refine z_ifeq (tgt := 28) o dX8_isPost_5 (by decide) (fun c4 => ?_) (fun c4 => ?_)
  · refine z_iconst (v := 0) o dX8_isPost_28 (by decide) ?_
    exact kret _ _ _ _ dX8_isPost_29 ⟨rfl, by unfold sp_isPost; rw [if_pos c4]⟩
  · have hz5 := c4
    rw [hnf] at hz5
    obtain ⟨a, ha, ea⟩ := zin_nat (by omega) hz5
    subst ea
    refine z_iload_n (j := 2) o dX8_isPost_8 rfl ?_
    refine z_iconst (v := 0) o dX8_isPost_9 (by decide) ?_
    refine z_aload_n (j := 0) o dX8_isPost_10 rfl ?_
    refine z_iload_n (j := 1) o dX8_isPost_11 rfl ?_
    refine z_iconst (v := 3) o dX8_isPost_12 (by decide) ?_
    refine z_callVi (As := [.int (nI a), .int 3]) (n := 2) (st := [.int 0, .int p]) o dX8_isPost_13 (c_X8_of hB M N a 3 (by omega)) zc_X8_55 (by decide) (i := 82) (by rw [hB]; exact zsh_lt rfl (by decide)) (zg_o rfl (by decide)) rfl rfl rfl (Nat.le_of_ble_eq_true rfl) (fun r5 g6 p7 => ?_)
    obtain ⟨rfl, rfl⟩ := p7
    refine z_iconst (v := 1) o dX8_isPost_16 (by decide) ?_
    refine z_isub o dX8_isPost_17 ?_
    refine z_callSi (As := [.int p, .int 0, .int ((M 83 (6 + 13 * a + 3)) - 1)]) (n := 3) (st := []) o dX8_isPost_18 (c_X8_in hB M N p 0 ((M 83 (6 + 13 * a + 3)) - 1)) zc_X8_51 (by decide) rfl rfl (Nat.le_of_ble_eq_true rfl) (fun r8 g9 p10 => ?_)
    obtain ⟨rfl, rfl⟩ := p10
    refine z_ifeq (tgt := 28) o dX8_isPost_21 (by decide) (fun c11 => ?_) (fun c11 => ?_)
    · refine z_iconst (v := 0) o dX8_isPost_28 (by decide) ?_
      exact kret _ _ _ _ dX8_isPost_29 ⟨rfl, by unfold sp_isPost; rw [zn_nI (by omega), if_neg c4, if_pos c11]⟩
    · refine z_iconst (v := 1) o dX8_isPost_24 (by decide) ?_
      refine z_goto (tgt := 29) o dX8_isPost_25 (by decide) ?_
      exact kret _ _ _ _ dX8_isPost_29 ⟨rfl, by unfold sp_isPost; rw [zn_nI (by omega), if_neg c4, if_neg c11]⟩

def sp_two (op x y : Int32) : Int32 := if op = 43 then x + y else if op = 45 then x - y else if op = 42 then x * y else if op = 47 then (if y = 0 then 0 else x / y) else if op = 37 then (if y = 0 then 0 else zirem x y)
  else if op = 60 then (if x < y then 1 else 0) else if op = 61 then (if x = y then 1 else 0) else if op = 62 then (if y < x then 1 else 0) else if op = 38 then (if x = 0 then 0 else if y = 0 then 0 else 1) else (if x = 0 then (if y = 0 then 0 else 1) else 1)
set_option maxHeartbeats 4000000 in
set_option maxRecDepth 100000 in
theorem c_X8_twoOf {B : zB} (hB : znn B = 95) (M : zM) (N : zN) (op x y : Int32) : zCi B (zg B M N) yX8_twoOf cX8_twoOf 3 (some .int) 0 [.int op, .int x, .int y] (fun r g' => g' = zg B M N ∧ r = sp_two op x y) := by
  refine zCi_of (by decide +kernel) (Nat.le_of_ble_eq_true rfl) .int rfl (fun _ _ _ => rfl) ?_
  intro X o kret
  show zW X B (zg B M N) 0 [(0, .int op), (1, .int x), (2, .int y)] []
  refine z_iload_n (j := 0) o dX8_twoOf_0 rfl ?_
  refine z_tcase 37 (tgt := 144) o dX8_twoOf_1 (by decide) (by decide) rfl (by decide) (fun c1 => ?_) (fun c1 => ?_)
  · refine z_iload_n (j := 2) o dX8_twoOf_144 rfl ?_
    refine z_ifne (tgt := 152) o dX8_twoOf_145 (by decide) (fun c2 => ?_) (fun c2 => ?_)
    · refine z_iload_n (j := 1) o dX8_twoOf_152 rfl ?_
      refine z_iload_n (j := 2) o dX8_twoOf_153 rfl ?_
      refine z_irem o dX8_twoOf_154 (by assumption) ?_
      exact kret _ _ _ _ dX8_twoOf_155 ⟨rfl, by subst_vars; unfold sp_two zirem; simp [*]⟩
    · refine z_iconst (v := 0) o dX8_twoOf_148 (by decide) ?_
      refine z_goto (tgt := 155) o dX8_twoOf_149 (by decide) ?_
      exact kret _ _ _ _ dX8_twoOf_155 ⟨rfl, by subst_vars; unfold sp_two zirem; simp [*]⟩
  refine z_tcase 38 (tgt := 189) o dX8_twoOf_1 (by decide) (by decide) rfl (by decide) (fun c3 => ?_) (fun c3 => ?_)
  · refine z_iload_n (j := 1) o dX8_twoOf_189 rfl ?_
    refine z_ifeq (tgt := 201) o dX8_twoOf_190 (by decide) (fun c4 => ?_) (fun c4 => ?_)
    · refine z_iconst (v := 0) o dX8_twoOf_201 (by decide) ?_
      exact kret _ _ _ _ dX8_twoOf_202 ⟨rfl, by subst_vars; unfold sp_two zirem; simp [*]⟩
    · refine z_iload_n (j := 2) o dX8_twoOf_193 rfl ?_
      refine z_ifeq (tgt := 201) o dX8_twoOf_194 (by decide) (fun c5 => ?_) (fun c5 => ?_)
      · refine z_iconst (v := 0) o dX8_twoOf_201 (by decide) ?_
        exact kret _ _ _ _ dX8_twoOf_202 ⟨rfl, by subst_vars; unfold sp_two zirem; simp [*]⟩
      · refine z_iconst (v := 1) o dX8_twoOf_197 (by decide) ?_
        refine z_goto (tgt := 202) o dX8_twoOf_198 (by decide) ?_
        exact kret _ _ _ _ dX8_twoOf_202 ⟨rfl, by subst_vars; unfold sp_two zirem; simp [*]⟩
  refine z_tcase 39 (tgt := 203) o dX8_twoOf_1 (by decide) (by decide) rfl (by decide) (fun c6 => ?_) (fun c6 => ?_)
  · refine z_iload_n (j := 1) o dX8_twoOf_203 rfl ?_
    refine z_ifne (tgt := 211) o dX8_twoOf_204 (by decide) (fun c7 => ?_) (fun c7 => ?_)
    · refine z_iconst (v := 1) o dX8_twoOf_211 (by decide) ?_
      refine z_goto (tgt := 216) o dX8_twoOf_212 (by decide) ?_
      exact kret _ _ _ _ dX8_twoOf_216 ⟨rfl, by subst_vars; unfold sp_two zirem; simp [*]⟩
    · refine z_iload_n (j := 2) o dX8_twoOf_207 rfl ?_
      refine z_ifeq (tgt := 215) o dX8_twoOf_208 (by decide) (fun c8 => ?_) (fun c8 => ?_)
      · refine z_iconst (v := 0) o dX8_twoOf_215 (by decide) ?_
        exact kret _ _ _ _ dX8_twoOf_216 ⟨rfl, by subst_vars; unfold sp_two zirem; simp [*]⟩
      · refine z_iconst (v := 1) o dX8_twoOf_211 (by decide) ?_
        refine z_goto (tgt := 216) o dX8_twoOf_212 (by decide) ?_
        exact kret _ _ _ _ dX8_twoOf_216 ⟨rfl, by subst_vars; unfold sp_two zirem; simp [*]⟩
  refine z_tcase 40 (tgt := 203) o dX8_twoOf_1 (by decide) (by decide) rfl (by decide) (fun c9 => ?_) (fun c9 => ?_)
  · refine z_iload_n (j := 1) o dX8_twoOf_203 rfl ?_
    refine z_ifne (tgt := 211) o dX8_twoOf_204 (by decide) (fun c10 => ?_) (fun c10 => ?_)
    · refine z_iconst (v := 1) o dX8_twoOf_211 (by decide) ?_
      refine z_goto (tgt := 216) o dX8_twoOf_212 (by decide) ?_
      exact kret _ _ _ _ dX8_twoOf_216 ⟨rfl, by subst_vars; unfold sp_two zirem; simp [*]⟩
    · refine z_iload_n (j := 2) o dX8_twoOf_207 rfl ?_
      refine z_ifeq (tgt := 215) o dX8_twoOf_208 (by decide) (fun c11 => ?_) (fun c11 => ?_)
      · refine z_iconst (v := 0) o dX8_twoOf_215 (by decide) ?_
        exact kret _ _ _ _ dX8_twoOf_216 ⟨rfl, by subst_vars; unfold sp_two zirem; simp [*]⟩
      · refine z_iconst (v := 1) o dX8_twoOf_211 (by decide) ?_
        refine z_goto (tgt := 216) o dX8_twoOf_212 (by decide) ?_
        exact kret _ _ _ _ dX8_twoOf_216 ⟨rfl, by subst_vars; unfold sp_two zirem; simp [*]⟩
  refine z_tcase 41 (tgt := 203) o dX8_twoOf_1 (by decide) (by decide) rfl (by decide) (fun c12 => ?_) (fun c12 => ?_)
  · refine z_iload_n (j := 1) o dX8_twoOf_203 rfl ?_
    refine z_ifne (tgt := 211) o dX8_twoOf_204 (by decide) (fun c13 => ?_) (fun c13 => ?_)
    · refine z_iconst (v := 1) o dX8_twoOf_211 (by decide) ?_
      refine z_goto (tgt := 216) o dX8_twoOf_212 (by decide) ?_
      exact kret _ _ _ _ dX8_twoOf_216 ⟨rfl, by subst_vars; unfold sp_two zirem; simp [*]⟩
    · refine z_iload_n (j := 2) o dX8_twoOf_207 rfl ?_
      refine z_ifeq (tgt := 215) o dX8_twoOf_208 (by decide) (fun c14 => ?_) (fun c14 => ?_)
      · refine z_iconst (v := 0) o dX8_twoOf_215 (by decide) ?_
        exact kret _ _ _ _ dX8_twoOf_216 ⟨rfl, by subst_vars; unfold sp_two zirem; simp [*]⟩
      · refine z_iconst (v := 1) o dX8_twoOf_211 (by decide) ?_
        refine z_goto (tgt := 216) o dX8_twoOf_212 (by decide) ?_
        exact kret _ _ _ _ dX8_twoOf_216 ⟨rfl, by subst_vars; unfold sp_two zirem; simp [*]⟩
  refine z_tcase 42 (tgt := 128) o dX8_twoOf_1 (by decide) (by decide) rfl (by decide) (fun c15 => ?_) (fun c15 => ?_)
  · refine z_iload_n (j := 1) o dX8_twoOf_128 rfl ?_
    refine z_iload_n (j := 2) o dX8_twoOf_129 rfl ?_
    refine z_imul o dX8_twoOf_130 ?_
    exact kret _ _ _ _ dX8_twoOf_131 ⟨rfl, by subst_vars; unfold sp_two zirem; simp [*]⟩
  refine z_tcase 43 (tgt := 120) o dX8_twoOf_1 (by decide) (by decide) rfl (by decide) (fun c16 => ?_) (fun c16 => ?_)
  · refine z_iload_n (j := 1) o dX8_twoOf_120 rfl ?_
    refine z_iload_n (j := 2) o dX8_twoOf_121 rfl ?_
    refine z_iadd o dX8_twoOf_122 ?_
    exact kret _ _ _ _ dX8_twoOf_123 ⟨rfl, by subst_vars; unfold sp_two zirem; simp [*]⟩
  refine z_tcase 44 (tgt := 203) o dX8_twoOf_1 (by decide) (by decide) rfl (by decide) (fun c17 => ?_) (fun c17 => ?_)
  · refine z_iload_n (j := 1) o dX8_twoOf_203 rfl ?_
    refine z_ifne (tgt := 211) o dX8_twoOf_204 (by decide) (fun c18 => ?_) (fun c18 => ?_)
    · refine z_iconst (v := 1) o dX8_twoOf_211 (by decide) ?_
      refine z_goto (tgt := 216) o dX8_twoOf_212 (by decide) ?_
      exact kret _ _ _ _ dX8_twoOf_216 ⟨rfl, by subst_vars; unfold sp_two zirem; simp [*]⟩
    · refine z_iload_n (j := 2) o dX8_twoOf_207 rfl ?_
      refine z_ifeq (tgt := 215) o dX8_twoOf_208 (by decide) (fun c19 => ?_) (fun c19 => ?_)
      · refine z_iconst (v := 0) o dX8_twoOf_215 (by decide) ?_
        exact kret _ _ _ _ dX8_twoOf_216 ⟨rfl, by subst_vars; unfold sp_two zirem; simp [*]⟩
      · refine z_iconst (v := 1) o dX8_twoOf_211 (by decide) ?_
        refine z_goto (tgt := 216) o dX8_twoOf_212 (by decide) ?_
        exact kret _ _ _ _ dX8_twoOf_216 ⟨rfl, by subst_vars; unfold sp_two zirem; simp [*]⟩
  refine z_tcase 45 (tgt := 124) o dX8_twoOf_1 (by decide) (by decide) rfl (by decide) (fun c20 => ?_) (fun c20 => ?_)
  · refine z_iload_n (j := 1) o dX8_twoOf_124 rfl ?_
    refine z_iload_n (j := 2) o dX8_twoOf_125 rfl ?_
    refine z_isub o dX8_twoOf_126 ?_
    exact kret _ _ _ _ dX8_twoOf_127 ⟨rfl, by subst_vars; unfold sp_two zirem; simp [*]⟩
  refine z_tcase 46 (tgt := 203) o dX8_twoOf_1 (by decide) (by decide) rfl (by decide) (fun c21 => ?_) (fun c21 => ?_)
  · refine z_iload_n (j := 1) o dX8_twoOf_203 rfl ?_
    refine z_ifne (tgt := 211) o dX8_twoOf_204 (by decide) (fun c22 => ?_) (fun c22 => ?_)
    · refine z_iconst (v := 1) o dX8_twoOf_211 (by decide) ?_
      refine z_goto (tgt := 216) o dX8_twoOf_212 (by decide) ?_
      exact kret _ _ _ _ dX8_twoOf_216 ⟨rfl, by subst_vars; unfold sp_two zirem; simp [*]⟩
    · refine z_iload_n (j := 2) o dX8_twoOf_207 rfl ?_
      refine z_ifeq (tgt := 215) o dX8_twoOf_208 (by decide) (fun c23 => ?_) (fun c23 => ?_)
      · refine z_iconst (v := 0) o dX8_twoOf_215 (by decide) ?_
        exact kret _ _ _ _ dX8_twoOf_216 ⟨rfl, by subst_vars; unfold sp_two zirem; simp [*]⟩
      · refine z_iconst (v := 1) o dX8_twoOf_211 (by decide) ?_
        refine z_goto (tgt := 216) o dX8_twoOf_212 (by decide) ?_
        exact kret _ _ _ _ dX8_twoOf_216 ⟨rfl, by subst_vars; unfold sp_two zirem; simp [*]⟩
  refine z_tcase 47 (tgt := 132) o dX8_twoOf_1 (by decide) (by decide) rfl (by decide) (fun c24 => ?_) (fun c24 => ?_)
  · refine z_iload_n (j := 2) o dX8_twoOf_132 rfl ?_
    refine z_ifne (tgt := 140) o dX8_twoOf_133 (by decide) (fun c25 => ?_) (fun c25 => ?_)
    · refine z_iload_n (j := 1) o dX8_twoOf_140 rfl ?_
      refine z_iload_n (j := 2) o dX8_twoOf_141 rfl ?_
      refine z_idiv o dX8_twoOf_142 (by assumption) ?_
      exact kret _ _ _ _ dX8_twoOf_143 ⟨rfl, by subst_vars; unfold sp_two zirem; simp [*]⟩
    · refine z_iconst (v := 0) o dX8_twoOf_136 (by decide) ?_
      refine z_goto (tgt := 143) o dX8_twoOf_137 (by decide) ?_
      exact kret _ _ _ _ dX8_twoOf_143 ⟨rfl, by subst_vars; unfold sp_two zirem; simp [*]⟩
  refine z_tcase 48 (tgt := 203) o dX8_twoOf_1 (by decide) (by decide) rfl (by decide) (fun c26 => ?_) (fun c26 => ?_)
  · refine z_iload_n (j := 1) o dX8_twoOf_203 rfl ?_
    refine z_ifne (tgt := 211) o dX8_twoOf_204 (by decide) (fun c27 => ?_) (fun c27 => ?_)
    · refine z_iconst (v := 1) o dX8_twoOf_211 (by decide) ?_
      refine z_goto (tgt := 216) o dX8_twoOf_212 (by decide) ?_
      exact kret _ _ _ _ dX8_twoOf_216 ⟨rfl, by subst_vars; unfold sp_two zirem; simp [*]⟩
    · refine z_iload_n (j := 2) o dX8_twoOf_207 rfl ?_
      refine z_ifeq (tgt := 215) o dX8_twoOf_208 (by decide) (fun c28 => ?_) (fun c28 => ?_)
      · refine z_iconst (v := 0) o dX8_twoOf_215 (by decide) ?_
        exact kret _ _ _ _ dX8_twoOf_216 ⟨rfl, by subst_vars; unfold sp_two zirem; simp [*]⟩
      · refine z_iconst (v := 1) o dX8_twoOf_211 (by decide) ?_
        refine z_goto (tgt := 216) o dX8_twoOf_212 (by decide) ?_
        exact kret _ _ _ _ dX8_twoOf_216 ⟨rfl, by subst_vars; unfold sp_two zirem; simp [*]⟩
  refine z_tcase 49 (tgt := 203) o dX8_twoOf_1 (by decide) (by decide) rfl (by decide) (fun c29 => ?_) (fun c29 => ?_)
  · refine z_iload_n (j := 1) o dX8_twoOf_203 rfl ?_
    refine z_ifne (tgt := 211) o dX8_twoOf_204 (by decide) (fun c30 => ?_) (fun c30 => ?_)
    · refine z_iconst (v := 1) o dX8_twoOf_211 (by decide) ?_
      refine z_goto (tgt := 216) o dX8_twoOf_212 (by decide) ?_
      exact kret _ _ _ _ dX8_twoOf_216 ⟨rfl, by subst_vars; unfold sp_two zirem; simp [*]⟩
    · refine z_iload_n (j := 2) o dX8_twoOf_207 rfl ?_
      refine z_ifeq (tgt := 215) o dX8_twoOf_208 (by decide) (fun c31 => ?_) (fun c31 => ?_)
      · refine z_iconst (v := 0) o dX8_twoOf_215 (by decide) ?_
        exact kret _ _ _ _ dX8_twoOf_216 ⟨rfl, by subst_vars; unfold sp_two zirem; simp [*]⟩
      · refine z_iconst (v := 1) o dX8_twoOf_211 (by decide) ?_
        refine z_goto (tgt := 216) o dX8_twoOf_212 (by decide) ?_
        exact kret _ _ _ _ dX8_twoOf_216 ⟨rfl, by subst_vars; unfold sp_two zirem; simp [*]⟩
  refine z_tcase 50 (tgt := 203) o dX8_twoOf_1 (by decide) (by decide) rfl (by decide) (fun c32 => ?_) (fun c32 => ?_)
  · refine z_iload_n (j := 1) o dX8_twoOf_203 rfl ?_
    refine z_ifne (tgt := 211) o dX8_twoOf_204 (by decide) (fun c33 => ?_) (fun c33 => ?_)
    · refine z_iconst (v := 1) o dX8_twoOf_211 (by decide) ?_
      refine z_goto (tgt := 216) o dX8_twoOf_212 (by decide) ?_
      exact kret _ _ _ _ dX8_twoOf_216 ⟨rfl, by subst_vars; unfold sp_two zirem; simp [*]⟩
    · refine z_iload_n (j := 2) o dX8_twoOf_207 rfl ?_
      refine z_ifeq (tgt := 215) o dX8_twoOf_208 (by decide) (fun c34 => ?_) (fun c34 => ?_)
      · refine z_iconst (v := 0) o dX8_twoOf_215 (by decide) ?_
        exact kret _ _ _ _ dX8_twoOf_216 ⟨rfl, by subst_vars; unfold sp_two zirem; simp [*]⟩
      · refine z_iconst (v := 1) o dX8_twoOf_211 (by decide) ?_
        refine z_goto (tgt := 216) o dX8_twoOf_212 (by decide) ?_
        exact kret _ _ _ _ dX8_twoOf_216 ⟨rfl, by subst_vars; unfold sp_two zirem; simp [*]⟩
  refine z_tcase 51 (tgt := 203) o dX8_twoOf_1 (by decide) (by decide) rfl (by decide) (fun c35 => ?_) (fun c35 => ?_)
  · refine z_iload_n (j := 1) o dX8_twoOf_203 rfl ?_
    refine z_ifne (tgt := 211) o dX8_twoOf_204 (by decide) (fun c36 => ?_) (fun c36 => ?_)
    · refine z_iconst (v := 1) o dX8_twoOf_211 (by decide) ?_
      refine z_goto (tgt := 216) o dX8_twoOf_212 (by decide) ?_
      exact kret _ _ _ _ dX8_twoOf_216 ⟨rfl, by subst_vars; unfold sp_two zirem; simp [*]⟩
    · refine z_iload_n (j := 2) o dX8_twoOf_207 rfl ?_
      refine z_ifeq (tgt := 215) o dX8_twoOf_208 (by decide) (fun c37 => ?_) (fun c37 => ?_)
      · refine z_iconst (v := 0) o dX8_twoOf_215 (by decide) ?_
        exact kret _ _ _ _ dX8_twoOf_216 ⟨rfl, by subst_vars; unfold sp_two zirem; simp [*]⟩
      · refine z_iconst (v := 1) o dX8_twoOf_211 (by decide) ?_
        refine z_goto (tgt := 216) o dX8_twoOf_212 (by decide) ?_
        exact kret _ _ _ _ dX8_twoOf_216 ⟨rfl, by subst_vars; unfold sp_two zirem; simp [*]⟩
  refine z_tcase 52 (tgt := 203) o dX8_twoOf_1 (by decide) (by decide) rfl (by decide) (fun c38 => ?_) (fun c38 => ?_)
  · refine z_iload_n (j := 1) o dX8_twoOf_203 rfl ?_
    refine z_ifne (tgt := 211) o dX8_twoOf_204 (by decide) (fun c39 => ?_) (fun c39 => ?_)
    · refine z_iconst (v := 1) o dX8_twoOf_211 (by decide) ?_
      refine z_goto (tgt := 216) o dX8_twoOf_212 (by decide) ?_
      exact kret _ _ _ _ dX8_twoOf_216 ⟨rfl, by subst_vars; unfold sp_two zirem; simp [*]⟩
    · refine z_iload_n (j := 2) o dX8_twoOf_207 rfl ?_
      refine z_ifeq (tgt := 215) o dX8_twoOf_208 (by decide) (fun c40 => ?_) (fun c40 => ?_)
      · refine z_iconst (v := 0) o dX8_twoOf_215 (by decide) ?_
        exact kret _ _ _ _ dX8_twoOf_216 ⟨rfl, by subst_vars; unfold sp_two zirem; simp [*]⟩
      · refine z_iconst (v := 1) o dX8_twoOf_211 (by decide) ?_
        refine z_goto (tgt := 216) o dX8_twoOf_212 (by decide) ?_
        exact kret _ _ _ _ dX8_twoOf_216 ⟨rfl, by subst_vars; unfold sp_two zirem; simp [*]⟩
  refine z_tcase 53 (tgt := 203) o dX8_twoOf_1 (by decide) (by decide) rfl (by decide) (fun c41 => ?_) (fun c41 => ?_)
  · refine z_iload_n (j := 1) o dX8_twoOf_203 rfl ?_
    refine z_ifne (tgt := 211) o dX8_twoOf_204 (by decide) (fun c42 => ?_) (fun c42 => ?_)
    · refine z_iconst (v := 1) o dX8_twoOf_211 (by decide) ?_
      refine z_goto (tgt := 216) o dX8_twoOf_212 (by decide) ?_
      exact kret _ _ _ _ dX8_twoOf_216 ⟨rfl, by subst_vars; unfold sp_two zirem; simp [*]⟩
    · refine z_iload_n (j := 2) o dX8_twoOf_207 rfl ?_
      refine z_ifeq (tgt := 215) o dX8_twoOf_208 (by decide) (fun c43 => ?_) (fun c43 => ?_)
      · refine z_iconst (v := 0) o dX8_twoOf_215 (by decide) ?_
        exact kret _ _ _ _ dX8_twoOf_216 ⟨rfl, by subst_vars; unfold sp_two zirem; simp [*]⟩
      · refine z_iconst (v := 1) o dX8_twoOf_211 (by decide) ?_
        refine z_goto (tgt := 216) o dX8_twoOf_212 (by decide) ?_
        exact kret _ _ _ _ dX8_twoOf_216 ⟨rfl, by subst_vars; unfold sp_two zirem; simp [*]⟩
  refine z_tcase 54 (tgt := 203) o dX8_twoOf_1 (by decide) (by decide) rfl (by decide) (fun c44 => ?_) (fun c44 => ?_)
  · refine z_iload_n (j := 1) o dX8_twoOf_203 rfl ?_
    refine z_ifne (tgt := 211) o dX8_twoOf_204 (by decide) (fun c45 => ?_) (fun c45 => ?_)
    · refine z_iconst (v := 1) o dX8_twoOf_211 (by decide) ?_
      refine z_goto (tgt := 216) o dX8_twoOf_212 (by decide) ?_
      exact kret _ _ _ _ dX8_twoOf_216 ⟨rfl, by subst_vars; unfold sp_two zirem; simp [*]⟩
    · refine z_iload_n (j := 2) o dX8_twoOf_207 rfl ?_
      refine z_ifeq (tgt := 215) o dX8_twoOf_208 (by decide) (fun c46 => ?_) (fun c46 => ?_)
      · refine z_iconst (v := 0) o dX8_twoOf_215 (by decide) ?_
        exact kret _ _ _ _ dX8_twoOf_216 ⟨rfl, by subst_vars; unfold sp_two zirem; simp [*]⟩
      · refine z_iconst (v := 1) o dX8_twoOf_211 (by decide) ?_
        refine z_goto (tgt := 216) o dX8_twoOf_212 (by decide) ?_
        exact kret _ _ _ _ dX8_twoOf_216 ⟨rfl, by subst_vars; unfold sp_two zirem; simp [*]⟩
  refine z_tcase 55 (tgt := 203) o dX8_twoOf_1 (by decide) (by decide) rfl (by decide) (fun c47 => ?_) (fun c47 => ?_)
  · refine z_iload_n (j := 1) o dX8_twoOf_203 rfl ?_
    refine z_ifne (tgt := 211) o dX8_twoOf_204 (by decide) (fun c48 => ?_) (fun c48 => ?_)
    · refine z_iconst (v := 1) o dX8_twoOf_211 (by decide) ?_
      refine z_goto (tgt := 216) o dX8_twoOf_212 (by decide) ?_
      exact kret _ _ _ _ dX8_twoOf_216 ⟨rfl, by subst_vars; unfold sp_two zirem; simp [*]⟩
    · refine z_iload_n (j := 2) o dX8_twoOf_207 rfl ?_
      refine z_ifeq (tgt := 215) o dX8_twoOf_208 (by decide) (fun c49 => ?_) (fun c49 => ?_)
      · refine z_iconst (v := 0) o dX8_twoOf_215 (by decide) ?_
        exact kret _ _ _ _ dX8_twoOf_216 ⟨rfl, by subst_vars; unfold sp_two zirem; simp [*]⟩
      · refine z_iconst (v := 1) o dX8_twoOf_211 (by decide) ?_
        refine z_goto (tgt := 216) o dX8_twoOf_212 (by decide) ?_
        exact kret _ _ _ _ dX8_twoOf_216 ⟨rfl, by subst_vars; unfold sp_two zirem; simp [*]⟩
  refine z_tcase 56 (tgt := 203) o dX8_twoOf_1 (by decide) (by decide) rfl (by decide) (fun c50 => ?_) (fun c50 => ?_)
  · refine z_iload_n (j := 1) o dX8_twoOf_203 rfl ?_
    refine z_ifne (tgt := 211) o dX8_twoOf_204 (by decide) (fun c51 => ?_) (fun c51 => ?_)
    · refine z_iconst (v := 1) o dX8_twoOf_211 (by decide) ?_
      refine z_goto (tgt := 216) o dX8_twoOf_212 (by decide) ?_
      exact kret _ _ _ _ dX8_twoOf_216 ⟨rfl, by subst_vars; unfold sp_two zirem; simp [*]⟩
    · refine z_iload_n (j := 2) o dX8_twoOf_207 rfl ?_
      refine z_ifeq (tgt := 215) o dX8_twoOf_208 (by decide) (fun c52 => ?_) (fun c52 => ?_)
      · refine z_iconst (v := 0) o dX8_twoOf_215 (by decide) ?_
        exact kret _ _ _ _ dX8_twoOf_216 ⟨rfl, by subst_vars; unfold sp_two zirem; simp [*]⟩
      · refine z_iconst (v := 1) o dX8_twoOf_211 (by decide) ?_
        refine z_goto (tgt := 216) o dX8_twoOf_212 (by decide) ?_
        exact kret _ _ _ _ dX8_twoOf_216 ⟨rfl, by subst_vars; unfold sp_two zirem; simp [*]⟩
  refine z_tcase 57 (tgt := 203) o dX8_twoOf_1 (by decide) (by decide) rfl (by decide) (fun c53 => ?_) (fun c53 => ?_)
  · refine z_iload_n (j := 1) o dX8_twoOf_203 rfl ?_
    refine z_ifne (tgt := 211) o dX8_twoOf_204 (by decide) (fun c54 => ?_) (fun c54 => ?_)
    · refine z_iconst (v := 1) o dX8_twoOf_211 (by decide) ?_
      refine z_goto (tgt := 216) o dX8_twoOf_212 (by decide) ?_
      exact kret _ _ _ _ dX8_twoOf_216 ⟨rfl, by subst_vars; unfold sp_two zirem; simp [*]⟩
    · refine z_iload_n (j := 2) o dX8_twoOf_207 rfl ?_
      refine z_ifeq (tgt := 215) o dX8_twoOf_208 (by decide) (fun c55 => ?_) (fun c55 => ?_)
      · refine z_iconst (v := 0) o dX8_twoOf_215 (by decide) ?_
        exact kret _ _ _ _ dX8_twoOf_216 ⟨rfl, by subst_vars; unfold sp_two zirem; simp [*]⟩
      · refine z_iconst (v := 1) o dX8_twoOf_211 (by decide) ?_
        refine z_goto (tgt := 216) o dX8_twoOf_212 (by decide) ?_
        exact kret _ _ _ _ dX8_twoOf_216 ⟨rfl, by subst_vars; unfold sp_two zirem; simp [*]⟩
  refine z_tcase 58 (tgt := 203) o dX8_twoOf_1 (by decide) (by decide) rfl (by decide) (fun c56 => ?_) (fun c56 => ?_)
  · refine z_iload_n (j := 1) o dX8_twoOf_203 rfl ?_
    refine z_ifne (tgt := 211) o dX8_twoOf_204 (by decide) (fun c57 => ?_) (fun c57 => ?_)
    · refine z_iconst (v := 1) o dX8_twoOf_211 (by decide) ?_
      refine z_goto (tgt := 216) o dX8_twoOf_212 (by decide) ?_
      exact kret _ _ _ _ dX8_twoOf_216 ⟨rfl, by subst_vars; unfold sp_two zirem; simp [*]⟩
    · refine z_iload_n (j := 2) o dX8_twoOf_207 rfl ?_
      refine z_ifeq (tgt := 215) o dX8_twoOf_208 (by decide) (fun c58 => ?_) (fun c58 => ?_)
      · refine z_iconst (v := 0) o dX8_twoOf_215 (by decide) ?_
        exact kret _ _ _ _ dX8_twoOf_216 ⟨rfl, by subst_vars; unfold sp_two zirem; simp [*]⟩
      · refine z_iconst (v := 1) o dX8_twoOf_211 (by decide) ?_
        refine z_goto (tgt := 216) o dX8_twoOf_212 (by decide) ?_
        exact kret _ _ _ _ dX8_twoOf_216 ⟨rfl, by subst_vars; unfold sp_two zirem; simp [*]⟩
  refine z_tcase 59 (tgt := 203) o dX8_twoOf_1 (by decide) (by decide) rfl (by decide) (fun c59 => ?_) (fun c59 => ?_)
  · refine z_iload_n (j := 1) o dX8_twoOf_203 rfl ?_
    refine z_ifne (tgt := 211) o dX8_twoOf_204 (by decide) (fun c60 => ?_) (fun c60 => ?_)
    · refine z_iconst (v := 1) o dX8_twoOf_211 (by decide) ?_
      refine z_goto (tgt := 216) o dX8_twoOf_212 (by decide) ?_
      exact kret _ _ _ _ dX8_twoOf_216 ⟨rfl, by subst_vars; unfold sp_two zirem; simp [*]⟩
    · refine z_iload_n (j := 2) o dX8_twoOf_207 rfl ?_
      refine z_ifeq (tgt := 215) o dX8_twoOf_208 (by decide) (fun c61 => ?_) (fun c61 => ?_)
      · refine z_iconst (v := 0) o dX8_twoOf_215 (by decide) ?_
        exact kret _ _ _ _ dX8_twoOf_216 ⟨rfl, by subst_vars; unfold sp_two zirem; simp [*]⟩
      · refine z_iconst (v := 1) o dX8_twoOf_211 (by decide) ?_
        refine z_goto (tgt := 216) o dX8_twoOf_212 (by decide) ?_
        exact kret _ _ _ _ dX8_twoOf_216 ⟨rfl, by subst_vars; unfold sp_two zirem; simp [*]⟩
  refine z_tcase 60 (tgt := 156) o dX8_twoOf_1 (by decide) (by decide) rfl (by decide) (fun c62 => ?_) (fun c62 => ?_)
  · refine z_iload_n (j := 1) o dX8_twoOf_156 rfl ?_
    refine z_iload_n (j := 2) o dX8_twoOf_157 rfl ?_
    refine z_icmpge (tgt := 165) o dX8_twoOf_158 (by decide) (fun c63 => ?_) (fun c63 => ?_)
    · refine z_iconst (v := 0) o dX8_twoOf_165 (by decide) ?_
      exact kret _ _ _ _ dX8_twoOf_166 ⟨rfl, by subst_vars; unfold sp_two zirem; simp [*]⟩
    · refine z_iconst (v := 1) o dX8_twoOf_161 (by decide) ?_
      refine z_goto (tgt := 166) o dX8_twoOf_162 (by decide) ?_
      exact kret _ _ _ _ dX8_twoOf_166 ⟨rfl, by subst_vars; unfold sp_two zirem; simp [*]⟩
  refine z_tcase 61 (tgt := 167) o dX8_twoOf_1 (by decide) (by decide) rfl (by decide) (fun c64 => ?_) (fun c64 => ?_)
  · refine z_iload_n (j := 1) o dX8_twoOf_167 rfl ?_
    refine z_iload_n (j := 2) o dX8_twoOf_168 rfl ?_
    refine z_icmpne (tgt := 176) o dX8_twoOf_169 (by decide) (fun c65 => ?_) (fun c65 => ?_)
    · refine z_iconst (v := 0) o dX8_twoOf_176 (by decide) ?_
      exact kret _ _ _ _ dX8_twoOf_177 ⟨rfl, by subst_vars; unfold sp_two zirem; simp [*]⟩
    · refine z_iconst (v := 1) o dX8_twoOf_172 (by decide) ?_
      refine z_goto (tgt := 177) o dX8_twoOf_173 (by decide) ?_
      exact kret _ _ _ _ dX8_twoOf_177 ⟨rfl, by subst_vars; unfold sp_two zirem; simp [*]⟩
  refine z_tcase 62 (tgt := 178) o dX8_twoOf_1 (by decide) (by decide) rfl (by decide) (fun c66 => ?_) (fun c66 => ?_)
  · refine z_iload_n (j := 1) o dX8_twoOf_178 rfl ?_
    refine z_iload_n (j := 2) o dX8_twoOf_179 rfl ?_
    refine z_icmple (tgt := 187) o dX8_twoOf_180 (by decide) (fun c67 => ?_) (fun c67 => ?_)
    · refine z_iconst (v := 0) o dX8_twoOf_187 (by decide) ?_
      exact kret _ _ _ _ dX8_twoOf_188 ⟨rfl, by subst_vars; unfold sp_two zirem; simp [*]⟩
    · refine z_iconst (v := 1) o dX8_twoOf_183 (by decide) ?_
      refine z_goto (tgt := 188) o dX8_twoOf_184 (by decide) ?_
      exact kret _ _ _ _ dX8_twoOf_188 ⟨rfl, by subst_vars; unfold sp_two zirem; simp [*]⟩
  refine z_tdef (tgt := 203) o dX8_twoOf_1 (by have := lv_neT (a := 37) c1 rfl; have := lv_neT (a := 38) c3 rfl; have := lv_neT (a := 39) c6 rfl; have := lv_neT (a := 40) c9 rfl; have := lv_neT (a := 41) c12 rfl; have := lv_neT (a := 42) c15 rfl; have := lv_neT (a := 43) c16 rfl; have := lv_neT (a := 44) c17 rfl; have := lv_neT (a := 45) c20 rfl; have := lv_neT (a := 46) c21 rfl; have := lv_neT (a := 47) c24 rfl; have := lv_neT (a := 48) c26 rfl; have := lv_neT (a := 49) c29 rfl; have := lv_neT (a := 50) c32 rfl; have := lv_neT (a := 51) c35 rfl; have := lv_neT (a := 52) c38 rfl; have := lv_neT (a := 53) c41 rfl; have := lv_neT (a := 54) c44 rfl; have := lv_neT (a := 55) c47 rfl; have := lv_neT (a := 56) c50 rfl; have := lv_neT (a := 57) c53 rfl; have := lv_neT (a := 58) c56 rfl; have := lv_neT (a := 59) c59 rfl; have := lv_neT (a := 60) c62 rfl; have := lv_neT (a := 61) c64 rfl; have := lv_neT (a := 62) c66 rfl; omega) (by decide) ?_
  refine z_iload_n (j := 1) o dX8_twoOf_203 rfl ?_
  refine z_ifne (tgt := 211) o dX8_twoOf_204 (by decide) (fun c68 => ?_) (fun c68 => ?_)
  · refine z_iconst (v := 1) o dX8_twoOf_211 (by decide) ?_
    refine z_goto (tgt := 216) o dX8_twoOf_212 (by decide) ?_
    exact kret _ _ _ _ dX8_twoOf_216 ⟨rfl, by subst_vars; unfold sp_two zirem; simp [*]⟩
  · refine z_iload_n (j := 2) o dX8_twoOf_207 rfl ?_
    refine z_ifeq (tgt := 215) o dX8_twoOf_208 (by decide) (fun c69 => ?_) (fun c69 => ?_)
    · refine z_iconst (v := 0) o dX8_twoOf_215 (by decide) ?_
      exact kret _ _ _ _ dX8_twoOf_216 ⟨rfl, by subst_vars; unfold sp_two zirem; simp [*]⟩
    · refine z_iconst (v := 1) o dX8_twoOf_211 (by decide) ?_
      refine z_goto (tgt := 216) o dX8_twoOf_212 (by decide) ?_
      exact kret _ _ _ _ dX8_twoOf_216 ⟨rfl, by subst_vars; unfold sp_two zirem; simp [*]⟩

