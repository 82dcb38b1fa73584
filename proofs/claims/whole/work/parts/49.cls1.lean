/-! the class: the ground, the JDK -/
set_option maxHeartbeats 4000000 in
set_option maxRecDepth 100000 in
theorem c_X1_bit {B : zB} (hB : znn B = 95) (M : zM) (N : zN) (c : Int32) : zCl B (zg B M N) yX1_bit cX1_bit 1 (some .long) 0 [.int c] (fun r g' => g' = zg B M N ∧ r = zlshl 1 c) := by
  refine zCl_of (by decide +kernel) (Nat.le_of_ble_eq_true rfl) ?_
  intro X o kret
  show zW X B (zg B M N) 0 [(0, .int c)] []
  refine z_lconst (v := 1) o dX1_bit_0 (by decide) ?_
  refine z_iload_n (j := 0) o dX1_bit_1 rfl ?_
  refine z_lshl o dX1_bit_2 ?_
  exact kret _ _ _ _ dX1_bit_3 ⟨rfl, rfl⟩

def cg_has (x : Int64) (c : Int32) : Int32 := if zlushr x c &&& 1 = 0 then 0 else 1
set_option maxHeartbeats 4000000 in
set_option maxRecDepth 100000 in
theorem c_X1_has {B : zB} (hB : znn B = 95) (M : zM) (N : zN) (x : Int64) (c : Int32) : zCi B (zg B M N) yX1_has cX1_has 3 (some .boolean) 0 [.long x, .int c] (fun r g' => g' = zg B M N ∧ r = cg_has x c) := by
  refine zCi_of (by decide +kernel) (Nat.le_of_ble_eq_true rfl) .boolean rfl (fun r _ h => zin_z r (by rw [h.2]; unfold cg_has; split <;> simp)) ?_
  intro X o kret
  show zW X B (zg B M N) 0 [(0, .long x), (2, .int c)] []
  refine z_lload_n (j := 0) o dX1_has_0 rfl ?_
  refine z_iload_n (j := 1) o dX1_has_1 rfl ?_
  refine z_lushr o dX1_has_2 ?_
  refine z_lconst (v := 1) o dX1_has_3 (by decide) ?_
  refine z_land o dX1_has_4 ?_
  refine z_lconst (v := 0) o dX1_has_5 (by decide) ?_
  refine z_lcmp o dX1_has_6 ?_
  refine z_ifeq (tgt := 14) o dX1_has_7 (by decide) (fun c1 => ?_) (fun c1 => ?_)
  · refine z_iconst (v := 0) o dX1_has_14 (by decide) ?_
    exact kret _ _ _ _ dX1_has_15 ⟨rfl, by unfold cg_has; rw [if_pos (lg0.mp c1)]⟩
  · refine z_iconst (v := 1) o dX1_has_10 (by decide) ?_
    refine z_goto (tgt := 15) o dX1_has_11 (by decide) ?_
    exact kret _ _ _ _ dX1_has_15 ⟨rfl, by unfold cg_has; rw [if_neg (fun q => c1 (lg0.mpr q))]⟩

def cg_cell (c : Int32) : Int32 := if c < 0 then 0 else if c < 64 then 1 else 0
set_option maxHeartbeats 4000000 in
set_option maxRecDepth 100000 in
theorem c_X1_isCell {B : zB} (hB : znn B = 95) (M : zM) (N : zN) (c : Int32) : zCi B (zg B M N) yX1_isCell cX1_isCell 1 (some .boolean) 0 [.int c] (fun r g' => g' = zg B M N ∧ r = cg_cell c) := by
  refine zCi_of (by decide +kernel) (Nat.le_of_ble_eq_true rfl) .boolean rfl (fun r _ h => zin_z r (by rw [h.2]; unfold cg_cell; (repeat' split) <;> simp)) ?_
  intro X o kret
  show zW X B (zg B M N) 0 [(0, .int c)] []
  refine z_iload_n (j := 0) o dX1_isCell_0 rfl ?_
  refine z_iflt (tgt := 14) o dX1_isCell_1 (by decide) (fun c1 => ?_) (fun c1 => ?_)
  · refine z_iconst (v := 0) o dX1_isCell_14 (by decide) ?_
    exact kret _ _ _ _ dX1_isCell_15 ⟨rfl, by unfold cg_cell; rw [if_pos c1]⟩
  · refine z_iload_n (j := 0) o dX1_isCell_4 rfl ?_
    refine z_bipush (v := 64) o dX1_isCell_5 (by decide) ?_
    refine z_icmpge (tgt := 14) o dX1_isCell_7 (by decide) (fun c2 => ?_) (fun c2 => ?_)
    · refine z_iconst (v := 0) o dX1_isCell_14 (by decide) ?_
      exact kret _ _ _ _ dX1_isCell_15 ⟨rfl, by unfold cg_cell; rw [if_neg c1, if_neg c2]⟩
    · refine z_iconst (v := 1) o dX1_isCell_10 (by decide) ?_
      refine z_goto (tgt := 15) o dX1_isCell_11 (by decide) ?_
      exact kret _ _ _ _ dX1_isCell_15 ⟨rfl, by unfold cg_cell; rw [if_neg c1, if_pos c2]⟩

theorem cg_cell_eq (c : Int32) : cg_cell c = zin c 0 63 := by
  unfold cg_cell zin
  by_cases h1 : c < 0
  · rw [if_pos h1, if_pos h1]
  · rw [if_neg h1, if_neg h1]
    by_cases h2 : c < 64
    · rw [if_pos h2, if_neg (fun q => by rw [Int32.lt_iff_toInt_lt] at h2 q; have a1 : (64 : Int32).toInt = 64 := rfl; have a2 : (63 : Int32).toInt = 63 := rfl; omega)]
    · rw [if_neg h2, if_pos (by rw [Int32.lt_iff_toInt_lt] at h2 ⊢; have a1 : (64 : Int32).toInt = 64 := rfl; have a2 : (63 : Int32).toInt = 63 := rfl; omega)]
set_option maxHeartbeats 4000000 in
set_option maxRecDepth 100000 in
theorem c_X1_next {B : zB} (hB : znn B = 95) (M : zM) (N : zN) (c w : Int32) : zCi B (zg B M N) yX1_next cX1_next 2 (some .int) 0 [.int c, .int w] (fun r g' => g' = zg B M N ∧ r = cg_next c w) := by
  refine zCi_of (by decide +kernel) (Nat.le_of_ble_eq_true rfl) .int rfl (fun _ _ _ => rfl) ?_
  intro X o kret
  show zW X B (zg B M N) 0 [(0, .int c), (1, .int w)] []
  refine z_iload_n (j := 1) o dX1_next_0 rfl ?_
  refine z_tcase 0 (tgt := 32) o dX1_next_1 (by decide) (by decide) rfl (by decide) (fun c1 => ?_) (fun c1 => ?_)
  · refine z_iload_n (j := 0) o dX1_next_32 rfl ?_
    refine z_bipush (v := 8) o dX1_next_33 (by decide) ?_
    refine z_icmplt (tgt := 45) o dX1_next_35 (by decide) (fun c2 => ?_) (fun c2 => ?_)
    · refine z_iconst (v := (-1)) o dX1_next_45 (by decide) ?_
      exact kret _ _ _ _ dX1_next_46 ⟨rfl, by unfold cg_next zirem; simp [*]⟩
    · refine z_iload_n (j := 0) o dX1_next_38 rfl ?_
      refine z_bipush (v := 8) o dX1_next_39 (by decide) ?_
      refine z_isub o dX1_next_41 ?_
      refine z_goto (tgt := 46) o dX1_next_42 (by decide) ?_
      exact kret _ _ _ _ dX1_next_46 ⟨rfl, by unfold cg_next zirem; simp [*]⟩
  refine z_tcase 1 (tgt := 47) o dX1_next_1 (by decide) (by decide) rfl (by decide) (fun c3 => ?_) (fun c3 => ?_)
  · refine z_iload_n (j := 0) o dX1_next_47 rfl ?_
    refine z_bipush (v := 8) o dX1_next_48 (by decide) ?_
    refine z_irem o dX1_next_50 (by decide) ?_
    refine z_bipush (v := 7) o dX1_next_51 (by decide) ?_
    refine z_icmpge (tgt := 62) o dX1_next_53 (by decide) (fun c4 => ?_) (fun c4 => ?_)
    · refine z_iconst (v := (-1)) o dX1_next_62 (by decide) ?_
      exact kret _ _ _ _ dX1_next_63 ⟨rfl, by unfold cg_next zirem; simp [*]⟩
    · refine z_iload_n (j := 0) o dX1_next_56 rfl ?_
      refine z_iconst (v := 1) o dX1_next_57 (by decide) ?_
      refine z_iadd o dX1_next_58 ?_
      refine z_goto (tgt := 63) o dX1_next_59 (by decide) ?_
      exact kret _ _ _ _ dX1_next_63 ⟨rfl, by unfold cg_next zirem; simp [*]⟩
  refine z_tcase 2 (tgt := 64) o dX1_next_1 (by decide) (by decide) rfl (by decide) (fun c5 => ?_) (fun c5 => ?_)
  · refine z_iload_n (j := 0) o dX1_next_64 rfl ?_
    refine z_bipush (v := 56) o dX1_next_65 (by decide) ?_
    refine z_icmpge (tgt := 77) o dX1_next_67 (by decide) (fun c6 => ?_) (fun c6 => ?_)
    · refine z_iconst (v := (-1)) o dX1_next_77 (by decide) ?_
      exact kret _ _ _ _ dX1_next_78 ⟨rfl, by unfold cg_next zirem; simp [*]⟩
    · refine z_iload_n (j := 0) o dX1_next_70 rfl ?_
      refine z_bipush (v := 8) o dX1_next_71 (by decide) ?_
      refine z_iadd o dX1_next_73 ?_
      refine z_goto (tgt := 78) o dX1_next_74 (by decide) ?_
      exact kret _ _ _ _ dX1_next_78 ⟨rfl, by unfold cg_next zirem; simp [*]⟩
  refine z_tcase 3 (tgt := 79) o dX1_next_1 (by decide) (by decide) rfl (by decide) (fun c7 => ?_) (fun c7 => ?_)
  · refine z_iload_n (j := 0) o dX1_next_79 rfl ?_
    refine z_bipush (v := 8) o dX1_next_80 (by decide) ?_
    refine z_irem o dX1_next_82 (by decide) ?_
    refine z_ifle (tgt := 92) o dX1_next_83 (by decide) (fun c8 => ?_) (fun c8 => ?_)
    · refine z_iconst (v := (-1)) o dX1_next_92 (by decide) ?_
      exact kret _ _ _ _ dX1_next_93 ⟨rfl, by unfold cg_next zirem; simp [*]⟩
    · refine z_iload_n (j := 0) o dX1_next_86 rfl ?_
      refine z_iconst (v := 1) o dX1_next_87 (by decide) ?_
      refine z_isub o dX1_next_88 ?_
      refine z_goto (tgt := 93) o dX1_next_89 (by decide) ?_
      exact kret _ _ _ _ dX1_next_93 ⟨rfl, by unfold cg_next zirem; simp [*]⟩
  refine z_tdef (tgt := 94) o dX1_next_1 (by have := lv_neT (a := 0) c1 rfl; have := lv_neT (a := 1) c3 rfl; have := lv_neT (a := 2) c5 rfl; have := lv_neT (a := 3) c7 rfl; omega) (by decide) ?_
  refine z_iconst (v := (-1)) o dX1_next_94 (by decide) ?_
  exact kret _ _ _ _ dX1_next_95 ⟨rfl, by unfold cg_next zirem; simp [*]⟩

set_option maxHeartbeats 4000000 in
set_option maxRecDepth 100000 in
theorem c_X1_nextOf {B : zB} (hB : znn B = 95) (M : zM) (N : zN) (x : Int64) (w : Int32) : zCl B (zg B M N) yX1_nextOf cX1_nextOf 3 (some .long) 0 [.long x, .int w] (fun r g' => g' = zg B M N ∧ r = cg_nx x w) := by
  refine zCl_of (by decide +kernel) (Nat.le_of_ble_eq_true rfl) ?_
  intro X o kret
  show zW X B (zg B M N) 0 [(0, .long x), (2, .int w)] []
  refine z_iload_n (j := 1) o dX1_nextOf_0 rfl ?_
  refine z_tcase 0 (tgt := 32) o dX1_nextOf_1 (by decide) (by decide) rfl (by decide) (fun c1 => ?_) (fun c1 => ?_)
  · refine z_lload_n (j := 0) o dX1_nextOf_32 rfl ?_
    refine z_bipush (v := 8) o dX1_nextOf_33 (by decide) ?_
    refine z_lushr o dX1_nextOf_35 ?_
    exact kret _ _ _ _ dX1_nextOf_36 ⟨rfl, by unfold cg_nx; simp [*]⟩
  refine z_tcase 1 (tgt := 37) o dX1_nextOf_1 (by decide) (by decide) rfl (by decide) (fun c2 => ?_) (fun c2 => ?_)
  · refine z_lload_n (j := 0) o dX1_nextOf_37 rfl ?_
    refine z_ldc2 (v := 9187201950435737471) o dX1_nextOf_38 zk_X1_9 ?_
    refine z_land o dX1_nextOf_41 ?_
    refine z_iconst (v := 1) o dX1_nextOf_42 (by decide) ?_
    refine z_lshl o dX1_nextOf_43 ?_
    exact kret _ _ _ _ dX1_nextOf_44 ⟨rfl, by unfold cg_nx; simp [*]⟩
  refine z_tcase 2 (tgt := 45) o dX1_nextOf_1 (by decide) (by decide) rfl (by decide) (fun c3 => ?_) (fun c3 => ?_)
  · refine z_lload_n (j := 0) o dX1_nextOf_45 rfl ?_
    refine z_bipush (v := 8) o dX1_nextOf_46 (by decide) ?_
    refine z_lshl o dX1_nextOf_48 ?_
    exact kret _ _ _ _ dX1_nextOf_49 ⟨rfl, by unfold cg_nx; simp [*]⟩
  refine z_tcase 3 (tgt := 50) o dX1_nextOf_1 (by decide) (by decide) rfl (by decide) (fun c4 => ?_) (fun c4 => ?_)
  · refine z_lload_n (j := 0) o dX1_nextOf_50 rfl ?_
    refine z_ldc2 (v := (-72340172838076674)) o dX1_nextOf_51 zk_X1_11 ?_
    refine z_land o dX1_nextOf_54 ?_
    refine z_iconst (v := 1) o dX1_nextOf_55 (by decide) ?_
    refine z_lushr o dX1_nextOf_56 ?_
    exact kret _ _ _ _ dX1_nextOf_57 ⟨rfl, by unfold cg_nx; simp [*]⟩
  refine z_tdef (tgt := 58) o dX1_nextOf_1 (by have := lv_neT (a := 0) c1 rfl; have := lv_neT (a := 1) c2 rfl; have := lv_neT (a := 2) c3 rfl; have := lv_neT (a := 3) c4 rfl; omega) (by decide) ?_
  refine z_lconst (v := 0) o dX1_nextOf_58 (by decide) ?_
  exact kret _ _ _ _ dX1_nextOf_59 ⟨rfl, by unfold cg_nx; simp [*]⟩

set_option maxHeartbeats 4000000 in
set_option maxRecDepth 100000 in
theorem c_X1_beside {B : zB} (hB : znn B = 95) (M : zM) (N : zN) (x : Int64) : zCl B (zg B M N) yX1_beside cX1_beside 2 (some .long) 1 [.long x] (fun r g' => g' = zg B M N ∧ r = sp_beside x) := by
  refine zCl_of (by decide +kernel) (Nat.le_of_ble_eq_true rfl) ?_
  intro X o kret
  show zW X B (zg B M N) 0 [(0, .long x)] []
  refine z_lload_n (j := 0) o dX1_beside_0 rfl ?_
  refine z_iconst (v := 0) o dX1_beside_1 (by decide) ?_
  refine z_callSl (As := [.long x, .int 0]) (n := 2) (st := []) o dX1_beside_2 (c_X1_nextOf hB M N x 0) zc_X1_13 (by decide) rfl rfl (Nat.le_of_ble_eq_true rfl) (fun r1 g2 p3 => ?_)
  obtain ⟨rfl, rfl⟩ := p3
  refine z_lload_n (j := 0) o dX1_beside_5 rfl ?_
  refine z_iconst (v := 1) o dX1_beside_6 (by decide) ?_
  refine z_callSl (As := [.long x, .int 1]) (n := 2) (st := [.long (cg_nx x 0)]) o dX1_beside_7 (c_X1_nextOf hB M N x 1) zc_X1_13 (by decide) rfl rfl (Nat.le_of_ble_eq_true rfl) (fun r4 g5 p6 => ?_)
  obtain ⟨rfl, rfl⟩ := p6
  refine z_lor o dX1_beside_10 ?_
  refine z_lload_n (j := 0) o dX1_beside_11 rfl ?_
  refine z_iconst (v := 2) o dX1_beside_12 (by decide) ?_
  refine z_callSl (As := [.long x, .int 2]) (n := 2) (st := [.long ((cg_nx x 0) ||| (cg_nx x 1))]) o dX1_beside_13 (c_X1_nextOf hB M N x 2) zc_X1_13 (by decide) rfl rfl (Nat.le_of_ble_eq_true rfl) (fun r7 g8 p9 => ?_)
  obtain ⟨rfl, rfl⟩ := p9
  refine z_lor o dX1_beside_16 ?_
  refine z_lload_n (j := 0) o dX1_beside_17 rfl ?_
  refine z_iconst (v := 3) o dX1_beside_18 (by decide) ?_
  refine z_callSl (As := [.long x, .int 3]) (n := 2) (st := [.long (((cg_nx x 0) ||| (cg_nx x 1)) ||| (cg_nx x 2))]) o dX1_beside_19 (c_X1_nextOf hB M N x 3) zc_X1_13 (by decide) rfl rfl (Nat.le_of_ble_eq_true rfl) (fun r10 g11 p12 => ?_)
  obtain ⟨rfl, rfl⟩ := p12
  refine z_lor o dX1_beside_22 ?_
  exact kret _ _ _ _ dX1_beside_23 ⟨rfl, cg_beside x⟩

set_option maxHeartbeats 4000000 in
set_option maxRecDepth 100000 in
theorem c_X1_inside {B : zB} (hB : znn B = 95) (M : zM) (N : zN) (x : Int64) : zCl B (zg B M N) yX1_inside cX1_inside 9 (some .long) 2 [.long x] (fun r g' => g' = zg B M N ∧ r = sp_in x) := by
  refine zCl_of (by decide +kernel) (Nat.le_of_ble_eq_true rfl) ?_
  intro X o kret
  show zW X B (zg B M N) 0 [(0, .long x)] []
  refine z_lload_n (j := 0) o dX1_inside_0 rfl ?_
  refine z_ldc2 (v := (-1)) o dX1_inside_1 zk_X1_17 ?_
  refine z_lxor o dX1_inside_4 ?_
  refine z_lstore_n (i := 2) (lv2 := [(2, .long (x ^^^ (-1))), (0, .long x)]) o dX1_inside_5 rfl (by decide) rfl ?_
  refine z_ldc2 (v := (-35604928818740737)) o dX1_inside_6 zk_X1_19 ?_
  refine z_lload_n (j := 0) o dX1_inside_9 rfl ?_
  refine z_land o dX1_inside_10 ?_
  refine z_lstore (i := 4) (lv2 := [(4, .long ((-35604928818740737) &&& (x ^^^ (-1)))), (2, .long (x ^^^ (-1))), (0, .long x)]) o dX1_inside_11 (by decide) rfl ?_
  refine z_iconst (v := 0) o dX1_inside_13 (by decide) ?_
  refine z_istore (i := 6) (lv2 := [(6, .int 0), (4, .long ((-35604928818740737) &&& (x ^^^ (-1)))), (2, .long (x ^^^ (-1))), (0, .long x)]) o dX1_inside_14 (by decide) rfl ?_
  have FIN : ∀ rq : Int64, rq = sp_it (x ^^^ (-1)) 64 → ∀ lv6 : Int32, zW X B (zg B M N) 56 [(6, .int lv6), (4, .long rq), (2, .long (x ^^^ (-1))), (0, .long x)] [] := by
    intro rq hrq lv6
    refine z_lload_n (j := 2) o dX1_inside_56 rfl ?_
    refine z_lload (j := 1) o dX1_inside_57 rfl ?_
    refine z_ldc2 (v := (-1)) o dX1_inside_59 zk_X1_17 ?_
    refine z_lxor o dX1_inside_62 ?_
    refine z_land o dX1_inside_63 ?_
    exact kret _ _ _ _ dX1_inside_64 ⟨rfl, by rw [hrq]; rfl⟩
  have LOOP : ∀ nq kq : Nat, kq + nq = 64 → zW X B (zg B M N) 16 [(6, .int (nI kq)), (4, .long (sp_it (x ^^^ (-1)) kq)), (2, .long (x ^^^ (-1))), (0, .long x)] [] := by
    intro nq
    induction nq with
    | zero =>
      intro kq hkq
      obtain rfl : kq = 64 := by omega
      refine z_iload (j := 0) o dX1_inside_16 rfl ?_
      refine z_bipush (v := 64) o dX1_inside_18 (by decide) ?_
      refine z_icmpge (tgt := 56) o dX1_inside_20 (by decide) (fun c1 => ?_) (fun c1 => ?_)
      · refine zo_lv [0, 1, 2, 3] rfl ?_
        exact FIN _ rfl _
      · exact absurd c1 (nI_nlt (a := 64) (b := 64) (by omega) (by omega))
    | succ nq ih =>
      intro kq hkq
      have hlt : kq < 64 := by omega
      refine z_iload (j := 0) o dX1_inside_16 rfl ?_
      refine z_bipush (v := 64) o dX1_inside_18 (by decide) ?_
      refine z_icmpge (tgt := 56) o dX1_inside_20 (by decide) (fun c2 => ?_) (fun c2 => ?_)
      · exact absurd (nI_lt (a := kq) (b := 64) (by omega) (by omega)) c2
      · refine z_lload (j := 1) o dX1_inside_23 rfl ?_
        refine z_lload (j := 1) o dX1_inside_25 rfl ?_
        refine z_callSl (As := [.long (sp_it (x ^^^ (-1)) kq)]) (n := 1) (st := [.long (sp_it (x ^^^ (-1)) kq)]) o dX1_inside_27 (c_X1_beside hB M N (sp_it (x ^^^ (-1)) kq)) zc_X1_21 (by decide) rfl rfl (Nat.le_of_ble_eq_true rfl) (fun r3 g4 p5 => ?_)
        obtain ⟨rfl, rfl⟩ := p5
        refine z_lload_n (j := 2) o dX1_inside_30 rfl ?_
        refine z_land o dX1_inside_31 ?_
        refine z_lor o dX1_inside_32 ?_
        refine z_lstore (i := 7) (lv2 := [(7, .long ((sp_it (x ^^^ (-1)) kq) ||| ((sp_beside (sp_it (x ^^^ (-1)) kq)) &&& (x ^^^ (-1))))), (6, .int (nI kq)), (4, .long (sp_it (x ^^^ (-1)) kq)), (2, .long (x ^^^ (-1))), (0, .long x)]) o dX1_inside_33 (by decide) rfl ?_
        refine z_lload (j := 0) o dX1_inside_35 rfl ?_
        refine z_lload (j := 2) o dX1_inside_37 rfl ?_
        refine z_lcmp o dX1_inside_39 ?_
        refine z_ifne (tgt := 46) o dX1_inside_40 (by decide) (fun c6 => ?_) (fun c6 => ?_)
        · refine z_lload (j := 0) o dX1_inside_46 rfl ?_
          refine z_lstore (i := 4) (lv2 := [(4, .long ((sp_it (x ^^^ (-1)) kq) ||| ((sp_beside (sp_it (x ^^^ (-1)) kq)) &&& (x ^^^ (-1))))), (7, .long ((sp_it (x ^^^ (-1)) kq) ||| ((sp_beside (sp_it (x ^^^ (-1)) kq)) &&& (x ^^^ (-1))))), (6, .int (nI kq)), (2, .long (x ^^^ (-1))), (0, .long x)]) o dX1_inside_48 (by decide) rfl ?_
          refine z_iinc (j := 2) (v := nI (kq + 1)) (lv2 := [(6, .int (nI (kq + 1))), (4, .long ((sp_it (x ^^^ (-1)) kq) ||| ((sp_beside (sp_it (x ^^^ (-1)) kq)) &&& (x ^^^ (-1))))), (7, .long ((sp_it (x ^^^ (-1)) kq) ||| ((sp_beside (sp_it (x ^^^ (-1)) kq)) &&& (x ^^^ (-1))))), (2, .long (x ^^^ (-1))), (0, .long x)]) o dX1_inside_50 rfl (zn_ofInt _) (by decide) rfl ?_
          refine z_goto (tgt := 16) o dX1_inside_53 (by decide) ?_
          refine zo_lv [0, 1, 3, 4] rfl ?_
          exact ih (kq + 1) (by omega)
        · have hst : sp_it (x ^^^ (-1)) (kq + 1) = sp_it (x ^^^ (-1)) kq := lg0.mp c6
          have hfx : sp_it (x ^^^ (-1)) kq = sp_it (x ^^^ (-1)) 64 := by
            have q := sp_it_stay (x ^^^ (-1)) hst (64 - kq)
            rw [show kq + (64 - kq) = 64 by omega] at q; exact q.symm
          refine z_goto (tgt := 56) o dX1_inside_43 (by decide) ?_
          refine zo_lv [1, 2, 3, 4] rfl ?_
          exact FIN _ hfx _
  refine zo_lv [0, 1, 2, 3] rfl ?_
  exact LOOP 64 0 rfl

set_option maxHeartbeats 4000000 in
set_option maxRecDepth 100000 in
theorem c_J13_bitCount {B : zB} (hB : znn B = 95) (M : zM) (N : zN) (x : Int64) : zCi B (zg B M N) yJ13_bitCount_95d88 cJ13_bitCount_95d88 2 (some .int) 0 [.long x] (fun r g' => g' = zg B M N ∧ r = nI (lpop x)) := by
  refine zCi_of (by decide +kernel) (Nat.le_of_ble_eq_true rfl) .int rfl (fun _ _ _ => rfl) ?_
  intro X o kret
  show zW X B (zg B M N) 0 [(0, .long x)] []
  refine z_lload_n (j := 0) o dJ13_bitCount_95d88_0 rfl ?_
  refine z_lload_n (j := 0) o dJ13_bitCount_95d88_1 rfl ?_
  refine z_iconst (v := 1) o dJ13_bitCount_95d88_2 (by decide) ?_
  refine z_lushr o dJ13_bitCount_95d88_3 ?_
  refine z_ldc2 (v := 6148914691236517205) o dJ13_bitCount_95d88_4 zk_J13_314 ?_
  refine z_land o dJ13_bitCount_95d88_7 ?_
  refine z_lsub o dJ13_bitCount_95d88_8 ?_
  refine z_lstore_n (i := 0) (lv2 := [(0, .long (x - ((zlushr x 1) &&& 6148914691236517205)))]) o dJ13_bitCount_95d88_9 rfl (by decide) rfl ?_
  refine z_lload_n (j := 0) o dJ13_bitCount_95d88_10 rfl ?_
  refine z_ldc2 (v := 3689348814741910323) o dJ13_bitCount_95d88_11 zk_J13_316 ?_
  refine z_land o dJ13_bitCount_95d88_14 ?_
  refine z_lload_n (j := 0) o dJ13_bitCount_95d88_15 rfl ?_
  refine z_iconst (v := 2) o dJ13_bitCount_95d88_16 (by decide) ?_
  refine z_lushr o dJ13_bitCount_95d88_17 ?_
  refine z_ldc2 (v := 3689348814741910323) o dJ13_bitCount_95d88_18 zk_J13_316 ?_
  refine z_land o dJ13_bitCount_95d88_21 ?_
  refine z_ladd o dJ13_bitCount_95d88_22 ?_
  refine z_lstore_n (i := 0) (lv2 := [(0, .long (((x - ((zlushr x 1) &&& 6148914691236517205)) &&& 3689348814741910323) + ((zlushr (x - ((zlushr x 1) &&& 6148914691236517205)) 2) &&& 3689348814741910323)))]) o dJ13_bitCount_95d88_23 rfl (by decide) rfl ?_
  refine z_lload_n (j := 0) o dJ13_bitCount_95d88_24 rfl ?_
  refine z_lload_n (j := 0) o dJ13_bitCount_95d88_25 rfl ?_
  refine z_iconst (v := 4) o dJ13_bitCount_95d88_26 (by decide) ?_
  refine z_lushr o dJ13_bitCount_95d88_27 ?_
  refine z_ladd o dJ13_bitCount_95d88_28 ?_
  refine z_ldc2 (v := 1085102592571150095) o dJ13_bitCount_95d88_29 zk_J13_318 ?_
  refine z_land o dJ13_bitCount_95d88_32 ?_
  refine z_lstore_n (i := 0) (lv2 := [(0, .long (((((x - ((zlushr x 1) &&& 6148914691236517205)) &&& 3689348814741910323) + ((zlushr (x - ((zlushr x 1) &&& 6148914691236517205)) 2) &&& 3689348814741910323)) + (zlushr (((x - ((zlushr x 1) &&& 6148914691236517205)) &&& 3689348814741910323) + ((zlushr (x - ((zlushr x 1) &&& 6148914691236517205)) 2) &&& 3689348814741910323)) 4)) &&& 1085102592571150095))]) o dJ13_bitCount_95d88_33 rfl (by decide) rfl ?_
  refine z_lload_n (j := 0) o dJ13_bitCount_95d88_34 rfl ?_
  refine z_lload_n (j := 0) o dJ13_bitCount_95d88_35 rfl ?_
  refine z_bipush (v := 8) o dJ13_bitCount_95d88_36 (by decide) ?_
  refine z_lushr o dJ13_bitCount_95d88_38 ?_
  refine z_ladd o dJ13_bitCount_95d88_39 ?_
  refine z_lstore_n (i := 0) (lv2 := [(0, .long ((((((x - ((zlushr x 1) &&& 6148914691236517205)) &&& 3689348814741910323) + ((zlushr (x - ((zlushr x 1) &&& 6148914691236517205)) 2) &&& 3689348814741910323)) + (zlushr (((x - ((zlushr x 1) &&& 6148914691236517205)) &&& 3689348814741910323) + ((zlushr (x - ((zlushr x 1) &&& 6148914691236517205)) 2) &&& 3689348814741910323)) 4)) &&& 1085102592571150095) + (zlushr (((((x - ((zlushr x 1) &&& 6148914691236517205)) &&& 3689348814741910323) + ((zlushr (x - ((zlushr x 1) &&& 6148914691236517205)) 2) &&& 3689348814741910323)) + (zlushr (((x - ((zlushr x 1) &&& 6148914691236517205)) &&& 3689348814741910323) + ((zlushr (x - ((zlushr x 1) &&& 6148914691236517205)) 2) &&& 3689348814741910323)) 4)) &&& 1085102592571150095) 8)))]) o dJ13_bitCount_95d88_40 rfl (by decide) rfl ?_
  refine z_lload_n (j := 0) o dJ13_bitCount_95d88_41 rfl ?_
  refine z_lload_n (j := 0) o dJ13_bitCount_95d88_42 rfl ?_
  refine z_bipush (v := 16) o dJ13_bitCount_95d88_43 (by decide) ?_
  refine z_lushr o dJ13_bitCount_95d88_45 ?_
  refine z_ladd o dJ13_bitCount_95d88_46 ?_
  refine z_lstore_n (i := 0) (lv2 := [(0, .long (((((((x - ((zlushr x 1) &&& 6148914691236517205)) &&& 3689348814741910323) + ((zlushr (x - ((zlushr x 1) &&& 6148914691236517205)) 2) &&& 3689348814741910323)) + (zlushr (((x - ((zlushr x 1) &&& 6148914691236517205)) &&& 3689348814741910323) + ((zlushr (x - ((zlushr x 1) &&& 6148914691236517205)) 2) &&& 3689348814741910323)) 4)) &&& 1085102592571150095) + (zlushr (((((x - ((zlushr x 1) &&& 6148914691236517205)) &&& 3689348814741910323) + ((zlushr (x - ((zlushr x 1) &&& 6148914691236517205)) 2) &&& 3689348814741910323)) + (zlushr (((x - ((zlushr x 1) &&& 6148914691236517205)) &&& 3689348814741910323) + ((zlushr (x - ((zlushr x 1) &&& 6148914691236517205)) 2) &&& 3689348814741910323)) 4)) &&& 1085102592571150095) 8)) + (zlushr ((((((x - ((zlushr x 1) &&& 6148914691236517205)) &&& 3689348814741910323) + ((zlushr (x - ((zlushr x 1) &&& 6148914691236517205)) 2) &&& 3689348814741910323)) + (zlushr (((x - ((zlushr x 1) &&& 6148914691236517205)) &&& 3689348814741910323) + ((zlushr (x - ((zlushr x 1) &&& 6148914691236517205)) 2) &&& 3689348814741910323)) 4)) &&& 1085102592571150095) + (zlushr (((((x - ((zlushr x 1) &&& 6148914691236517205)) &&& 3689348814741910323) + ((zlushr (x - ((zlushr x 1) &&& 6148914691236517205)) 2) &&& 3689348814741910323)) + (zlushr (((x - ((zlushr x 1) &&& 6148914691236517205)) &&& 3689348814741910323) + ((zlushr (x - ((zlushr x 1) &&& 6148914691236517205)) 2) &&& 3689348814741910323)) 4)) &&& 1085102592571150095) 8)) 16)))]) o dJ13_bitCount_95d88_47 rfl (by decide) rfl ?_
  refine z_lload_n (j := 0) o dJ13_bitCount_95d88_48 rfl ?_
  refine z_lload_n (j := 0) o dJ13_bitCount_95d88_49 rfl ?_
  refine z_bipush (v := 32) o dJ13_bitCount_95d88_50 (by decide) ?_
  refine z_lushr o dJ13_bitCount_95d88_52 ?_
  refine z_ladd o dJ13_bitCount_95d88_53 ?_
  refine z_lstore_n (i := 0) (lv2 := [(0, .long ((((((((x - ((zlushr x 1) &&& 6148914691236517205)) &&& 3689348814741910323) + ((zlushr (x - ((zlushr x 1) &&& 6148914691236517205)) 2) &&& 3689348814741910323)) + (zlushr (((x - ((zlushr x 1) &&& 6148914691236517205)) &&& 3689348814741910323) + ((zlushr (x - ((zlushr x 1) &&& 6148914691236517205)) 2) &&& 3689348814741910323)) 4)) &&& 1085102592571150095) + (zlushr (((((x - ((zlushr x 1) &&& 6148914691236517205)) &&& 3689348814741910323) + ((zlushr (x - ((zlushr x 1) &&& 6148914691236517205)) 2) &&& 3689348814741910323)) + (zlushr (((x - ((zlushr x 1) &&& 6148914691236517205)) &&& 3689348814741910323) + ((zlushr (x - ((zlushr x 1) &&& 6148914691236517205)) 2) &&& 3689348814741910323)) 4)) &&& 1085102592571150095) 8)) + (zlushr ((((((x - ((zlushr x 1) &&& 6148914691236517205)) &&& 3689348814741910323) + ((zlushr (x - ((zlushr x 1) &&& 6148914691236517205)) 2) &&& 3689348814741910323)) + (zlushr (((x - ((zlushr x 1) &&& 6148914691236517205)) &&& 3689348814741910323) + ((zlushr (x - ((zlushr x 1) &&& 6148914691236517205)) 2) &&& 3689348814741910323)) 4)) &&& 1085102592571150095) + (zlushr (((((x - ((zlushr x 1) &&& 6148914691236517205)) &&& 3689348814741910323) + ((zlushr (x - ((zlushr x 1) &&& 6148914691236517205)) 2) &&& 3689348814741910323)) + (zlushr (((x - ((zlushr x 1) &&& 6148914691236517205)) &&& 3689348814741910323) + ((zlushr (x - ((zlushr x 1) &&& 6148914691236517205)) 2) &&& 3689348814741910323)) 4)) &&& 1085102592571150095) 8)) 16)) + (zlushr (((((((x - ((zlushr x 1) &&& 6148914691236517205)) &&& 3689348814741910323) + ((zlushr (x - ((zlushr x 1) &&& 6148914691236517205)) 2) &&& 3689348814741910323)) + (zlushr (((x - ((zlushr x 1) &&& 6148914691236517205)) &&& 3689348814741910323) + ((zlushr (x - ((zlushr x 1) &&& 6148914691236517205)) 2) &&& 3689348814741910323)) 4)) &&& 1085102592571150095) + (zlushr (((((x - ((zlushr x 1) &&& 6148914691236517205)) &&& 3689348814741910323) + ((zlushr (x - ((zlushr x 1) &&& 6148914691236517205)) 2) &&& 3689348814741910323)) + (zlushr (((x - ((zlushr x 1) &&& 6148914691236517205)) &&& 3689348814741910323) + ((zlushr (x - ((zlushr x 1) &&& 6148914691236517205)) 2) &&& 3689348814741910323)) 4)) &&& 1085102592571150095) 8)) + (zlushr ((((((x - ((zlushr x 1) &&& 6148914691236517205)) &&& 3689348814741910323) + ((zlushr (x - ((zlushr x 1) &&& 6148914691236517205)) 2) &&& 3689348814741910323)) + (zlushr (((x - ((zlushr x 1) &&& 6148914691236517205)) &&& 3689348814741910323) + ((zlushr (x - ((zlushr x 1) &&& 6148914691236517205)) 2) &&& 3689348814741910323)) 4)) &&& 1085102592571150095) + (zlushr (((((x - ((zlushr x 1) &&& 6148914691236517205)) &&& 3689348814741910323) + ((zlushr (x - ((zlushr x 1) &&& 6148914691236517205)) 2) &&& 3689348814741910323)) + (zlushr (((x - ((zlushr x 1) &&& 6148914691236517205)) &&& 3689348814741910323) + ((zlushr (x - ((zlushr x 1) &&& 6148914691236517205)) 2) &&& 3689348814741910323)) 4)) &&& 1085102592571150095) 8)) 16)) 32)))]) o dJ13_bitCount_95d88_54 rfl (by decide) rfl ?_
  refine z_lload_n (j := 0) o dJ13_bitCount_95d88_55 rfl ?_
  refine z_l2i o dJ13_bitCount_95d88_56 ?_
  refine z_bipush (v := 127) o dJ13_bitCount_95d88_57 (by decide) ?_
  refine z_iand o dJ13_bitCount_95d88_59 ?_
  exact kret _ _ _ _ dJ13_bitCount_95d88_60 ⟨rfl, bit_count x⟩

