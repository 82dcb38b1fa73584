/-! the reference: loops over a row, sets of cells -/
theorem copy_step {M : zM} {i0 i1 : Nat} (h : i0 ≠ i1) {k : Nat} : zu (va_up M i1 (sp_cp (M i0) (M i1) k)) i1 k (va_up M i1 (sp_cp (M i0) (M i1) k) i0 k) = va_up M i1 (sp_cp (M i0) (M i1) (k + 1)) := by
  unfold zu
  rw [va_up_twice, va_up_self, va_up_ne _ _ h, sp_cp_s]
set_option maxHeartbeats 4000000 in
set_option maxRecDepth 100000 in
theorem c_X8_copyAll {B : zB} (hB : znn B = 95) (M : zM) (N : zN) (i0 i1 : Nat) (h01 : i0 ≠ i1) (h0 : zsh i0 = 10) (h1 : zsh i1 = 10) (l0 : zln i0 = 524) (l1 : zln i1 = 524) : zCv B (zg B M N) yX8_copyAll cX8_copyAll 3 none 0 [zref B i0, zref B i1] (fun g' => g' = zg B (va_up M i1 (M i0)) N) := by
  refine zCv_of (by decide +kernel) (Nat.le_of_ble_eq_true rfl) ?_
  intro X o kret
  show zW X B (zg B M N) 0 [(0, zref B i0), (1, zref B i1)] []
  refine z_iconst (v := 0) o dX8_copyAll_0 (by decide) ?_
  refine z_istore_n (i := 2) (lv2 := [(2, .int 0), (0, zref B i0), (1, zref B i1)]) o dX8_copyAll_1 rfl (by decide) rfl ?_
  have LOOP : ∀ nq kq : Nat, kq + nq = 524 → zW X B (zg B (va_up M i1 (sp_cp (M i0) (M i1) kq)) N) 2 [(2, .int (nI kq)), (0, zref B i0), (1, zref B i1)] [] := by
    intro nq
    induction nq with
    | zero =>
      intro kq hkkq
      obtain rfl : kq = 524 := by omega
      refine z_iload_n (j := 0) o dX8_copyAll_2 rfl ?_
      refine z_sipush (v := 524) o dX8_copyAll_3 (by decide) ?_
      refine z_icmpge (tgt := 21) o dX8_copyAll_6 (by decide) (fun c1 => ?_) (fun c1 => ?_)
      · refine zo_fit h1 (f' := M i0) (fun j hj => by rw [l1] at hj; unfold sp_cp; rw [if_pos hj]) ?_
        exact kret _ _ _ dX8_copyAll_21 rfl
      · exact absurd c1 (nI_nlt (a := 524) (b := 524) (by omega) (by omega))
    | succ nq ihkq =>
      intro kq hkkq
      have hlkq : kq < 524 := by omega
      refine z_iload_n (j := 0) o dX8_copyAll_2 rfl ?_
      refine z_sipush (v := 524) o dX8_copyAll_3 (by decide) ?_
      refine z_icmpge (tgt := 21) o dX8_copyAll_6 (by decide) (fun c2 => ?_) (fun c2 => ?_)
      · exact absurd (nI_lt (a := kq) (b := 524) (by omega) (by omega)) c2
      · refine z_aload_n (j := 2) o dX8_copyAll_9 rfl ?_
        refine z_iload_n (j := 0) o dX8_copyAll_10 rfl ?_
        refine z_aload_n (j := 1) o dX8_copyAll_11 rfl ?_
        refine z_iload_n (j := 0) o dX8_copyAll_12 rfl ?_
        refine zo_iald (i := i0) (j := kq) o hB dX8_copyAll_13 h0 (by rw [l0]; omega) (by rw [l0]; decide) ?_
        refine zo_iast (i := i1) (j := kq) o hB dX8_copyAll_14 h1 (by rw [l1]; omega) (by rw [l1]; decide) ?_
        refine z_iinc (j := 0) (v := nI (kq + 1)) (lv2 := [(2, .int (nI (kq + 1))), (0, zref B i0), (1, zref B i1)]) o dX8_copyAll_15 rfl (zn_ofInt _) (by decide) rfl ?_
        refine z_goto (tgt := 2) o dX8_copyAll_18 (by decide) ?_
        rw [copy_step h01]
        exact ihkq (kq + 1) (by omega)
  have h9 := LOOP 524 0 rfl
  rw [sp_cp_0, va_up_id] at h9
  exact h9

set_option maxHeartbeats 4000000 in
set_option maxRecDepth 100000 in
theorem c_X8_thinks {B : zB} (hB : znn B = 95) (M : zM) (N : zN) : zCv B (zg B M N) yX8_thinks cX8_thinks 1 none 1 [zref B 82] (fun g' => g' = zg B (va_up M 85 (M 83)) N) := by
  refine zCv_of (by decide +kernel) (Nat.le_of_ble_eq_true rfl) ?_
  intro X o kret
  show zW X B (zg B M N) 0 [(0, zref B 82)] []
  refine z_aload_n (j := 0) o dX8_thinks_0 rfl ?_
  refine zo_get (i := 82) o hB dX8_thinks_1 zf_X8_9 rfl (by decide) rfl ?_
  refine z_aload_n (j := 0) o dX8_thinks_4 rfl ?_
  refine zo_get (i := 82) o hB dX8_thinks_5 zf_X8_16 rfl (by decide) rfl ?_
  refine z_callSv (As := [zref B 83, zref B 85]) (n := 2) (st := []) o dX8_thinks_8 (c_X8_copyAll hB M N 83 85 (by decide) rfl rfl rfl rfl) zc_X8_47 (by decide) rfl rfl (Nat.le_of_ble_eq_true rfl) (fun g2 p3 => ?_)
  cases p3
  refine zo_nm (fun M4 hM4 => ?_)
  exact kret _ _ _ dX8_thinks_11 (by subst_vars; rfl)

set_option maxHeartbeats 4000000 in
set_option maxRecDepth 100000 in
theorem c_X8_putsBack {B : zB} (hB : znn B = 95) (M : zM) (N : zN) : zCv B (zg B M N) yX8_putsBack cX8_putsBack 1 none 1 [zref B 82] (fun g' => g' = zg B (va_up M 83 (M 85)) N) := by
  refine zCv_of (by decide +kernel) (Nat.le_of_ble_eq_true rfl) ?_
  intro X o kret
  show zW X B (zg B M N) 0 [(0, zref B 82)] []
  refine z_aload_n (j := 0) o dX8_putsBack_0 rfl ?_
  refine zo_get (i := 82) o hB dX8_putsBack_1 zf_X8_16 rfl (by decide) rfl ?_
  refine z_aload_n (j := 0) o dX8_putsBack_4 rfl ?_
  refine zo_get (i := 82) o hB dX8_putsBack_5 zf_X8_9 rfl (by decide) rfl ?_
  refine z_callSv (As := [zref B 85, zref B 83]) (n := 2) (st := []) o dX8_putsBack_8 (c_X8_copyAll hB M N 85 83 (by decide) rfl rfl rfl rfl) zc_X8_47 (by decide) rfl rfl (Nat.le_of_ble_eq_true rfl) (fun g2 p3 => ?_)
  cases p3
  refine zo_nm (fun M4 hM4 => ?_)
  exact kret _ _ _ dX8_putsBack_11 (by subst_vars; rfl)

def sp_posts (ρ : Nat → Int32) (i : Nat) : Nat → Int64
  | 0 => 0
  | p + 1 => sp_posts ρ i p ||| zlshl 1 (ρ (6 + 13 * i + (5 + p)))
set_option maxHeartbeats 4000000 in
set_option maxRecDepth 100000 in
theorem c_X8_postsOf {B : zB} (hB : znn B = 95) (M : zM) (N : zN) (a np : Nat) (ha : a < 4) (hn : M 83 (6 + 13 * a + 3) = nI np) (hn8 : np ≤ 8) : zCl B (zg B M N) yX8_postsOf cX8_postsOf 5 (some .long) 1 [zref B 82, .int (nI a)] (fun r g' => g' = zg B M N ∧ r = sp_posts (M 83) a np) := by
  refine zCl_of (by decide +kernel) (Nat.le_of_ble_eq_true rfl) ?_
  intro X o kret
  show zW X B (zg B M N) 0 [(0, zref B 82), (1, .int (nI a))] []
  refine z_lconst (v := 0) o dX8_postsOf_0 (by decide) ?_
  refine z_lstore_n (i := 2) (lv2 := [(2, .long 0), (0, zref B 82), (1, .int (nI a))]) o dX8_postsOf_1 rfl (by decide) rfl ?_
  refine z_iconst (v := 0) o dX8_postsOf_2 (by decide) ?_
  refine z_istore (i := 4) (lv2 := [(4, .int 0), (2, .long 0), (0, zref B 82), (1, .int (nI a))]) o dX8_postsOf_3 (by decide) rfl ?_
  have LOOP : ∀ nq kq : Nat, kq + nq = np → zW X B (zg B M N) 5 [(4, .int (nI kq)), (2, .long (sp_posts (M 83) a kq)), (0, zref B 82), (1, .int (nI a))] [] := by
    intro nq
    induction nq with
    | zero =>
      intro kq hkkq
      have hqkq : np = kq := by omega
      subst hqkq
      refine z_iload (j := 0) o dX8_postsOf_5 rfl ?_
      refine z_aload_n (j := 2) o dX8_postsOf_7 rfl ?_
      refine z_iload_n (j := 3) o dX8_postsOf_8 rfl ?_
      refine z_iconst (v := 3) o dX8_postsOf_9 (by decide) ?_
      refine z_callVi (As := [.int (nI a), .int 3]) (n := 2) (st := [.int (nI np)]) o dX8_postsOf_10 (c_X8_of hB M N a 3 (by omega)) zc_X8_55 (by decide) (i := 82) (by rw [hB]; exact zsh_lt rfl (by decide)) (zg_o rfl (by decide)) rfl rfl rfl (Nat.le_of_ble_eq_true rfl) (fun r1 g2 p3 => ?_)
      obtain ⟨rfl, rfl⟩ := p3
      refine zo_rw (y := nI np) (hn) ?_
      refine z_icmpge (tgt := 36) o dX8_postsOf_13 (by decide) (fun c4 => ?_) (fun c4 => ?_)
      · refine z_lload_n (j := 1) o dX8_postsOf_36 rfl ?_
        exact kret _ _ _ _ dX8_postsOf_37 ⟨rfl, rfl⟩
      · exact absurd c4 (nI_nlt (a := np) (b := np) (by omega) (by omega))
    | succ nq ihkq =>
      intro kq hkkq
      have hlkq : kq < np := by omega
      refine z_iload (j := 0) o dX8_postsOf_5 rfl ?_
      refine z_aload_n (j := 2) o dX8_postsOf_7 rfl ?_
      refine z_iload_n (j := 3) o dX8_postsOf_8 rfl ?_
      refine z_iconst (v := 3) o dX8_postsOf_9 (by decide) ?_
      refine z_callVi (As := [.int (nI a), .int 3]) (n := 2) (st := [.int (nI kq)]) o dX8_postsOf_10 (c_X8_of hB M N a 3 (by omega)) zc_X8_55 (by decide) (i := 82) (by rw [hB]; exact zsh_lt rfl (by decide)) (zg_o rfl (by decide)) rfl rfl rfl (Nat.le_of_ble_eq_true rfl) (fun r5 g6 p7 => ?_)
      obtain ⟨rfl, rfl⟩ := p7
      refine zo_rw (y := nI np) (hn) ?_
      refine z_icmpge (tgt := 36) o dX8_postsOf_13 (by decide) (fun c8 => ?_) (fun c8 => ?_)
      · exact absurd (nI_lt (a := kq) (b := np) (by omega) (by omega)) c8
      · refine z_lload_n (j := 1) o dX8_postsOf_16 rfl ?_
        refine z_lconst (v := 1) o dX8_postsOf_17 (by decide) ?_
        refine z_aload_n (j := 2) o dX8_postsOf_18 rfl ?_
        refine z_iload_n (j := 3) o dX8_postsOf_19 rfl ?_
        refine z_iconst (v := 5) o dX8_postsOf_20 (by decide) ?_
        refine z_iload (j := 0) o dX8_postsOf_21 rfl ?_
        refine z_iadd o dX8_postsOf_23 ?_
        refine zo_rw (y := nI (5 + kq)) (zn_add (rfl) (rfl)) ?_
        refine z_callVi (As := [.int (nI a), .int (nI (5 + kq))]) (n := 2) (st := [.long 1, .long (sp_posts (M 83) a kq)]) o dX8_postsOf_24 (c_X8_of hB M N a (5 + kq) (by omega)) zc_X8_55 (by decide) (i := 82) (by rw [hB]; exact zsh_lt rfl (by decide)) (zg_o rfl (by decide)) rfl rfl rfl (Nat.le_of_ble_eq_true rfl) (fun r9 g10 p11 => ?_)
        obtain ⟨rfl, rfl⟩ := p11
        refine z_lshl o dX8_postsOf_27 ?_
        refine z_lor o dX8_postsOf_28 ?_
        refine z_lstore_n (i := 2) (lv2 := [(2, .long ((sp_posts (M 83) a kq) ||| (zlshl 1 (M 83 (6 + 13 * a + (5 + kq)))))), (4, .int (nI kq)), (0, zref B 82), (1, .int (nI a))]) o dX8_postsOf_29 rfl (by decide) rfl ?_
        refine z_iinc (j := 1) (v := nI (kq + 1)) (lv2 := [(4, .int (nI (kq + 1))), (2, .long ((sp_posts (M 83) a kq) ||| (zlshl 1 (M 83 (6 + 13 * a + (5 + kq)))))), (0, zref B 82), (1, .int (nI a))]) o dX8_postsOf_30 rfl (zn_ofInt _) (by decide) rfl ?_
        refine zo_lv [0, 1, 2, 3] rfl ?_
        refine z_goto (tgt := 5) o dX8_postsOf_33 (by decide) ?_
        exact ihkq (kq + 1) (by omega)
  exact LOOP np 0 (by omega)

def sp_beside (s : Int64) : Int64 := zlshl s 8 ||| zlushr s 8 ||| zlshl s 1 &&& (-72340172838076674) ||| zlushr s 1 &&& 9187201950435737471
def sp_it (op : Int64) : Nat → Int64
  | 0 => (-35604928818740737) &&& op
  | k + 1 => sp_it op k ||| sp_beside (sp_it op k) &&& op
def sp_in (posts : Int64) : Int64 := (posts ^^^ (-1)) &&& (sp_it (posts ^^^ (-1)) 64 ^^^ (-1))
set_option maxHeartbeats 4000000 in
set_option maxRecDepth 100000 in
theorem c_X8_beside {B : zB} (hB : znn B = 95) (M : zM) (N : zN) (x : Int64) : zCl B (zg B M N) yX8_beside cX8_beside 2 (some .long) 0 [.long x] (fun r g' => g' = zg B M N ∧ r = sp_beside x) := by
  refine zCl_of (by decide +kernel) (Nat.le_of_ble_eq_true rfl) ?_
  intro X o kret
  show zW X B (zg B M N) 0 [(0, .long x)] []
  refine z_lload_n (j := 0) o dX8_beside_0 rfl ?_
  refine z_bipush (v := 8) o dX8_beside_1 (by decide) ?_
  refine z_lshl o dX8_beside_3 ?_
  refine z_lload_n (j := 0) o dX8_beside_4 rfl ?_
  refine z_bipush (v := 8) o dX8_beside_5 (by decide) ?_
  refine z_lushr o dX8_beside_7 ?_
  refine z_lor o dX8_beside_8 ?_
  refine z_lload_n (j := 0) o dX8_beside_9 rfl ?_
  refine z_iconst (v := 1) o dX8_beside_10 (by decide) ?_
  refine z_lshl o dX8_beside_11 ?_
  refine z_ldc2 (v := (-72340172838076674)) o dX8_beside_12 zk_X8_69 ?_
  refine z_land o dX8_beside_15 ?_
  refine z_lor o dX8_beside_16 ?_
  refine z_lload_n (j := 0) o dX8_beside_17 rfl ?_
  refine z_iconst (v := 1) o dX8_beside_18 (by decide) ?_
  refine z_lushr o dX8_beside_19 ?_
  refine z_ldc2 (v := 9187201950435737471) o dX8_beside_20 zk_X8_71 ?_
  refine z_land o dX8_beside_23 ?_
  refine z_lor o dX8_beside_24 ?_
  exact kret _ _ _ _ dX8_beside_25 ⟨rfl, rfl⟩

