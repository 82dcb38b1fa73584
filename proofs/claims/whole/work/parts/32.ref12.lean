/-! the reference: what it answers to a call (3) -/
def sq_nth (M : zM) (s : Int32) : Int32 := if zin s 0 3 = 0 then -1000000001 else if M 87 (zn s) = 0 then -1000000002 else 0
set_option maxHeartbeats 4000000 in
set_option maxRecDepth 100000 in
theorem c_X8_notThere {B : zB} (hB : znn B = 95) (M : zM) (N : zN) (s : Int32) : zCi B (zg B M N) yX8_notThere cX8_notThere 2 (some .int) 2 [zref B 82, .int s] (fun r g' => g' = zg B M N ∧ r = sq_nth M s) := by
  refine zCi_of (by decide +kernel) (Nat.le_of_ble_eq_true rfl) .int rfl (fun _ _ _ => rfl) ?_
  intro X o kret
  show zW X B (zg B M N) 0 [(0, zref B 82), (1, .int s)] []
  refine z_iload_n (j := 1) o dX8_notThere_0 rfl ?_
  refine z_callSi (As := [.int s]) (n := 1) (st := []) o dX8_notThere_1 (c_X8_isSheet hB M N s) zc_X8_227 (by decide) rfl rfl (Nat.le_of_ble_eq_true rfl) (fun r1 g2 p3 => ?_)
  obtain ⟨rfl, rfl⟩ := p3
  refine z_ifne (tgt := 12) o dX8_notThere_4 (by decide) (fun c4 => ?_) (fun c4 => ?_)
  · obtain ⟨sa, hsa, esa⟩ := zin_lit (n := 3) rfl (by decide) c4
    subst esa
    refine z_aload_n (j := 0) o dX8_notThere_12 rfl ?_
    refine zo_get (i := 82) o hB dX8_notThere_13 zf_X8_22 rfl (by decide) rfl ?_
    refine z_iload_n (j := 1) o dX8_notThere_16 rfl ?_
    refine zo_iald (i := 87) (j := sa) o hB dX8_notThere_17 rfl (show sa < 4 by omega) (by decide) ?_
    refine z_ifne (tgt := 26) o dX8_notThere_18 (by decide) (fun c5 => ?_) (fun c5 => ?_)
    · refine z_iconst (v := 0) o dX8_notThere_26 (by decide) ?_
      exact kret _ _ _ _ dX8_notThere_27 ⟨rfl, by unfold sq_nth; (try rw [zn_nI (n := sa) (by omega)]); rw [if_neg c4, if_neg c5]⟩
    · refine z_ldc (v := (-1000000002)) o dX8_notThere_21 zk_X8_218 ?_
      refine z_goto (tgt := 27) o dX8_notThere_23 (by decide) ?_
      exact kret _ _ _ _ dX8_notThere_27 ⟨rfl, by unfold sq_nth; (try rw [zn_nI (n := sa) (by omega)]); rw [if_neg c4, if_pos c5]⟩
  · refine z_ldc (v := (-1000000001)) o dX8_notThere_7 zk_X8_100 ?_
    refine z_goto (tgt := 27) o dX8_notThere_9 (by decide) ?_
    exact kret _ _ _ _ dX8_notThere_27 ⟨rfl, by unfold sq_nth;  rw [if_pos c4]⟩

def sq_put (M : zM) (s : Int32) (i : Int32) (v : Int32) : Int32 × zM :=
  if zin s 0 3 = 0 then (zE 1, zEr M 1) else if M 87 (zn s) = 0 then (zE 2, zEr M 2) else if zin i 0 (M 88 (zn s) - 1) = 0 then (zE 1, zEr M 1) else
  (1, zu M 89 (24 * zn s + zn i) (sp_low (M 87 (zn s)) v))
set_option maxHeartbeats 4000000 in
set_option maxRecDepth 100000 in
theorem c_X8_put {B : zB} (hB : znn B = 95) (M : zM) (N : zN) (s : Int32) (i : Int32) (v : Int32) (hsh : zShOk M) : zCi B (zg B M N) yX8_put cX8_put 5 (some .int) 5 [zref B 82, .int s, .int i, .int v] (fun r g' => g' = zg B (sq_put M s i v).2 N ∧ r = (sq_put M s i v).1) := by
  refine zCi_of (by decide +kernel) (Nat.le_of_ble_eq_true rfl) .int rfl (fun _ _ _ => rfl) ?_
  intro X o kret
  show zW X B (zg B M N) 0 [(0, zref B 82), (1, .int s), (2, .int i), (3, .int v)] []
  refine z_aload_n (j := 0) o dX8_put_0 rfl ?_
  refine z_iload_n (j := 1) o dX8_put_1 rfl ?_
  refine z_callVi (As := [.int s]) (n := 1) (st := []) o dX8_put_2 (c_X8_notThere hB M N s) zc_X8_273 (by decide) (i := 82) (by rw [hB]; exact zsh_lt rfl (by decide)) (zg_o rfl (by decide)) rfl rfl rfl (Nat.le_of_ble_eq_true rfl) (fun r1 g2 p3 => ?_)
  obtain ⟨rfl, rfl⟩ := p3
  by_cases q1 : zin s 0 3 = 0
  · refine zo_rw (y := -1000000001) (by unfold sq_nth; rw [if_pos q1]) ?_
    refine z_istore (i := 4) (lv2 := [(4, .int (-1000000001)), (0, zref B 82), (1, .int s), (2, .int i), (3, .int v)]) o dX8_put_5 (by decide) rfl ?_
    refine z_iload (j := 0) o dX8_put_7 rfl ?_
    refine z_ifne (tgt := 33) o dX8_put_9 (by decide) (fun c4 => ?_) (fun c4 => ?_)
    · refine z_iload (j := 0) o dX8_put_33 rfl ?_
      refine z_istore (i := 4) (lv2 := [(4, .int (-1000000001)), (0, zref B 82), (1, .int s), (2, .int i), (3, .int v)]) o dX8_put_35 (by decide) rfl ?_
      refine z_iload (j := 0) o dX8_put_37 rfl ?_
      refine z_ifeq (tgt := 49) o dX8_put_39 (by decide) (fun c5 => ?_) (fun c5 => ?_)
      · exact absurd c5 (by decide)
      · refine z_aload_n (j := 1) o dX8_put_42 rfl ?_
        refine z_iload (j := 0) o dX8_put_43 rfl ?_
        refine z_callVi (As := [.int (-1000000001)]) (n := 1) (st := []) o dX8_put_45 (c_X8_error hB M N 1 (by omega)) zc_X8_101 (by decide) (i := 82) (by rw [hB]; exact zsh_lt rfl (by decide)) (zg_o rfl (by decide)) rfl rfl rfl (Nat.le_of_ble_eq_true rfl) (fun r6 g7 p8 => ?_)
        obtain ⟨rfl, rfl⟩ := p8
        exact kret _ _ _ _ dX8_put_48 ⟨by unfold sq_put;  rw [if_pos q1] <;> (try rfl), by unfold sq_put;  rw [if_pos q1] <;> (try rfl)⟩
    · exact absurd c4 (by decide)
  obtain ⟨sa, hsa, esa⟩ := zin_lit (n := 3) rfl (by decide) q1
  subst esa
  by_cases q2 : M 87 sa = 0
  · refine zo_rw (y := -1000000002) (by unfold sq_nth; rw [if_neg q1, zn_nI (by omega), if_pos q2]) ?_
    refine z_istore (i := 4) (lv2 := [(4, .int (-1000000002)), (0, zref B 82), (1, .int (nI sa)), (2, .int i), (3, .int v)]) o dX8_put_5 (by decide) rfl ?_
    refine z_iload (j := 0) o dX8_put_7 rfl ?_
    refine z_ifne (tgt := 33) o dX8_put_9 (by decide) (fun c9 => ?_) (fun c9 => ?_)
    · refine z_iload (j := 0) o dX8_put_33 rfl ?_
      refine z_istore (i := 4) (lv2 := [(4, .int (-1000000002)), (0, zref B 82), (1, .int (nI sa)), (2, .int i), (3, .int v)]) o dX8_put_35 (by decide) rfl ?_
      refine z_iload (j := 0) o dX8_put_37 rfl ?_
      refine z_ifeq (tgt := 49) o dX8_put_39 (by decide) (fun c10 => ?_) (fun c10 => ?_)
      · exact absurd c10 (by decide)
      · refine z_aload_n (j := 1) o dX8_put_42 rfl ?_
        refine z_iload (j := 0) o dX8_put_43 rfl ?_
        refine z_callVi (As := [.int (-1000000002)]) (n := 1) (st := []) o dX8_put_45 (c_X8_error hB M N 2 (by omega)) zc_X8_101 (by decide) (i := 82) (by rw [hB]; exact zsh_lt rfl (by decide)) (zg_o rfl (by decide)) rfl rfl rfl (Nat.le_of_ble_eq_true rfl) (fun r11 g12 p13 => ?_)
        obtain ⟨rfl, rfl⟩ := p13
        exact kret _ _ _ _ dX8_put_48 ⟨by unfold sq_put; (try rw [zn_nI (n := sa) (by omega)]); rw [if_neg q1, if_pos q2] <;> (try rfl), by unfold sq_put; (try rw [zn_nI (n := sa) (by omega)]); rw [if_neg q1, if_pos q2] <;> (try rfl)⟩
    · exact absurd c9 (by decide)
  · refine zo_rw (y := 0) (by unfold sq_nth; rw [if_neg q1, zn_nI (by omega), if_neg q2]) ?_
    obtain ⟨hsn, hsn24⟩ := sh_n2 hsh (s := sa) (by omega)
    refine z_istore (i := 4) (lv2 := [(4, .int 0), (0, zref B 82), (1, .int (nI sa)), (2, .int i), (3, .int v)]) o dX8_put_5 (by decide) rfl ?_
    refine z_iload (j := 0) o dX8_put_7 rfl ?_
    refine z_ifne (tgt := 33) o dX8_put_9 (by decide) (fun c14 => ?_) (fun c14 => ?_)
    · exact absurd c14 (by decide)
    · refine z_iload_n (j := 3) o dX8_put_12 rfl ?_
      refine z_iconst (v := 0) o dX8_put_13 (by decide) ?_
      refine z_aload_n (j := 1) o dX8_put_14 rfl ?_
      refine zo_get (i := 82) o hB dX8_put_15 zf_X8_25 rfl (by decide) rfl ?_
      refine z_iload_n (j := 2) o dX8_put_18 rfl ?_
      refine zo_iald (i := 88) (j := sa) o hB dX8_put_19 rfl (show sa < 4 by omega) (by decide) ?_
      refine z_iconst (v := 1) o dX8_put_20 (by decide) ?_
      refine z_isub o dX8_put_21 ?_
      refine z_callSi (As := [.int i, .int 0, .int ((M 88 sa) - 1)]) (n := 3) (st := []) o dX8_put_22 (c_X8_in hB M N i 0 ((M 88 sa) - 1)) zc_X8_51 (by decide) rfl rfl (Nat.le_of_ble_eq_true rfl) (fun r15 g16 p17 => ?_)
      obtain ⟨rfl, rfl⟩ := p17
      refine z_ifne (tgt := 33) o dX8_put_25 (by decide) (fun c18 => ?_) (fun c18 => ?_)
      · have hz25 := c18
        rw [hsn] at hz25
        obtain ⟨ia, hia, eia⟩ := zin_nat (by omega) hz25
        subst eia
        refine z_iload (j := 0) o dX8_put_33 rfl ?_
        refine z_istore (i := 4) (lv2 := [(4, .int 0), (0, zref B 82), (1, .int (nI sa)), (2, .int (nI ia)), (3, .int v)]) o dX8_put_35 (by decide) rfl ?_
        refine z_iload (j := 0) o dX8_put_37 rfl ?_
        refine z_ifeq (tgt := 49) o dX8_put_39 (by decide) (fun c19 => ?_) (fun c19 => ?_)
        · refine z_aload_n (j := 1) o dX8_put_49 rfl ?_
          refine zo_get (i := 82) o hB dX8_put_50 zf_X8_28 rfl (by decide) rfl ?_
          refine z_bipush (v := 24) o dX8_put_53 (by decide) ?_
          refine z_iload_n (j := 2) o dX8_put_55 rfl ?_
          refine z_imul o dX8_put_56 ?_
          refine zo_rw (y := nI (24 * sa)) (zn_mul (rfl) (rfl)) ?_
          refine z_iload_n (j := 3) o dX8_put_57 rfl ?_
          refine z_iadd o dX8_put_58 ?_
          refine zo_rw (y := nI (24 * sa + ia)) (zn_add (rfl) (rfl)) ?_
          refine z_aload_n (j := 1) o dX8_put_59 rfl ?_
          refine zo_get (i := 82) o hB dX8_put_60 zf_X8_22 rfl (by decide) rfl ?_
          refine z_iload_n (j := 2) o dX8_put_63 rfl ?_
          refine zo_iald (i := 87) (j := sa) o hB dX8_put_64 rfl (show sa < 4 by omega) (by decide) ?_
          refine z_bipush (v := 8) o dX8_put_65 (by decide) ?_
          refine z_icmpne (tgt := 75) o dX8_put_67 (by decide) (fun c20 => ?_) (fun c20 => ?_)
          · refine z_aload_n (j := 1) o dX8_put_75 rfl ?_
            refine zo_get (i := 82) o hB dX8_put_76 zf_X8_22 rfl (by decide) rfl ?_
            refine z_iload_n (j := 2) o dX8_put_79 rfl ?_
            refine zo_iald (i := 87) (j := sa) o hB dX8_put_80 rfl (show sa < 4 by omega) (by decide) ?_
            refine z_bipush (v := 16) o dX8_put_81 (by decide) ?_
            refine z_icmpne (tgt := 91) o dX8_put_83 (by decide) (fun c21 => ?_) (fun c21 => ?_)
            · refine z_iload_n (j := 4) o dX8_put_91 rfl ?_
              refine zo_iast (i := 89) (j := 24 * sa + ia) o hB dX8_put_92 rfl (show 24 * sa + ia < 96 by omega) (by decide) ?_
              refine z_iconst (v := 1) o dX8_put_93 (by decide) ?_
              exact kret _ _ _ _ dX8_put_94 ⟨by unfold sq_put; (try rw [zn_nI (n := sa) (by omega)]); (try rw [zn_nI (n := ia) (by omega)]); rw [if_neg q1, if_neg q2, if_neg c18]; unfold sp_low; rw [if_neg c20, if_neg c21], by unfold sq_put; (try rw [zn_nI (n := sa) (by omega)]); (try rw [zn_nI (n := ia) (by omega)]); rw [if_neg q1, if_neg q2, if_neg c18]⟩
            · refine z_iload_n (j := 4) o dX8_put_86 rfl ?_
              refine z_i2s o dX8_put_87 ?_
              refine z_goto (tgt := 92) o dX8_put_88 (by decide) ?_
              refine zo_iast (i := 89) (j := 24 * sa + ia) o hB dX8_put_92 rfl (show 24 * sa + ia < 96 by omega) (by decide) ?_
              refine z_iconst (v := 1) o dX8_put_93 (by decide) ?_
              exact kret _ _ _ _ dX8_put_94 ⟨by unfold sq_put; (try rw [zn_nI (n := sa) (by omega)]); (try rw [zn_nI (n := ia) (by omega)]); rw [if_neg q1, if_neg q2, if_neg c18]; unfold sp_low; rw [if_neg c20, if_pos c21], by unfold sq_put; (try rw [zn_nI (n := sa) (by omega)]); (try rw [zn_nI (n := ia) (by omega)]); rw [if_neg q1, if_neg q2, if_neg c18]⟩
          · refine z_iload_n (j := 4) o dX8_put_70 rfl ?_
            refine z_i2b o dX8_put_71 ?_
            refine z_goto (tgt := 92) o dX8_put_72 (by decide) ?_
            refine zo_iast (i := 89) (j := 24 * sa + ia) o hB dX8_put_92 rfl (show 24 * sa + ia < 96 by omega) (by decide) ?_
            refine z_iconst (v := 1) o dX8_put_93 (by decide) ?_
            exact kret _ _ _ _ dX8_put_94 ⟨by unfold sq_put; (try rw [zn_nI (n := sa) (by omega)]); (try rw [zn_nI (n := ia) (by omega)]); rw [if_neg q1, if_neg q2, if_neg c18]; unfold sp_low; rw [if_pos c20], by unfold sq_put; (try rw [zn_nI (n := sa) (by omega)]); (try rw [zn_nI (n := ia) (by omega)]); rw [if_neg q1, if_neg q2, if_neg c18]⟩
        · exact absurd c19 (by decide)
      · refine z_ldc (v := (-1000000001)) o dX8_put_28 zk_X8_100 ?_
        refine z_goto (tgt := 35) o dX8_put_30 (by decide) ?_
        refine z_istore (i := 4) (lv2 := [(4, .int (-1000000001)), (0, zref B 82), (1, .int (nI sa)), (2, .int i), (3, .int v)]) o dX8_put_35 (by decide) rfl ?_
        refine z_iload (j := 0) o dX8_put_37 rfl ?_
        refine z_ifeq (tgt := 49) o dX8_put_39 (by decide) (fun c22 => ?_) (fun c22 => ?_)
        · exact absurd c22 (by decide)
        · refine z_aload_n (j := 1) o dX8_put_42 rfl ?_
          refine z_iload (j := 0) o dX8_put_43 rfl ?_
          refine z_callVi (As := [.int (-1000000001)]) (n := 1) (st := []) o dX8_put_45 (c_X8_error hB M N 1 (by omega)) zc_X8_101 (by decide) (i := 82) (by rw [hB]; exact zsh_lt rfl (by decide)) (zg_o rfl (by decide)) rfl rfl rfl (Nat.le_of_ble_eq_true rfl) (fun r23 g24 p25 => ?_)
          obtain ⟨rfl, rfl⟩ := p25
          exact kret _ _ _ _ dX8_put_48 ⟨by unfold sq_put; (try rw [zn_nI (n := sa) (by omega)]); rw [if_neg q1, if_neg q2, if_pos c18] <;> (try rfl), by unfold sq_put; (try rw [zn_nI (n := sa) (by omega)]); rw [if_neg q1, if_neg q2, if_pos c18] <;> (try rfl)⟩

def sp_jud (C ρ : Nat → Int32) (s : Nat) : Nat → Nat → Nat
  | 0, k => k
  | n + 1, k => if C (24 * s + k) = sp_brand ρ (zn (ρ (58 + 2 * k))) then sp_jud C ρ s n (k + 1) else k
def sq_judge (M : zM) (s : Int32) : Int32 × zM :=
  if zin s 0 3 = 0 then (zE 1, zEr M 1) else if M 87 (zn s) = 0 then (zE 2, zEr M 2) else (nI (sp_jud (M 89) (M 83) (zn s) (min (sh_n M (zn s)) (sp_nc (M 83))) 0), M)
set_option maxHeartbeats 4000000 in
set_option maxRecDepth 100000 in
theorem c_X8_judge {B : zB} (hB : znn B = 95) (M : zM) (N : zN) (s : Int32) (hok : zOkAll (M 83)) (hsh : zShOk M) : zCi B (zg B M N) yX8_judge cX8_judge 4 (some .int) 5 [zref B 82, .int s] (fun r g' => g' = zg B (sq_judge M s).2 N ∧ r = (sq_judge M s).1) := by
  refine zCi_of (by decide +kernel) (Nat.le_of_ble_eq_true rfl) .int rfl (fun _ _ _ => rfl) ?_
  intro X o kret
  show zW X B (zg B M N) 0 [(0, zref B 82), (1, .int s)] []
  obtain ⟨hnf, hnf4⟩ := ok_nf2 hok.1
  obtain ⟨hnc, hnc6⟩ := ok_nc2 hok.1
  refine z_aload_n (j := 0) o dX8_judge_0 rfl ?_
  refine z_iload_n (j := 1) o dX8_judge_1 rfl ?_
  refine z_callVi (As := [.int s]) (n := 1) (st := []) o dX8_judge_2 (c_X8_notThere hB M N s) zc_X8_273 (by decide) (i := 82) (by rw [hB]; exact zsh_lt rfl (by decide)) (zg_o rfl (by decide)) rfl rfl rfl (Nat.le_of_ble_eq_true rfl) (fun r1 g2 p3 => ?_)
  obtain ⟨rfl, rfl⟩ := p3
  by_cases q1 : zin s 0 3 = 0
  · refine zo_rw (y := -1000000001) (by unfold sq_nth; rw [if_pos q1]) ?_
    refine z_istore_n (i := 2) (lv2 := [(2, .int (-1000000001)), (0, zref B 82), (1, .int s)]) o dX8_judge_5 rfl (by decide) rfl ?_
    refine z_iload_n (j := 0) o dX8_judge_6 rfl ?_
    refine z_ifeq (tgt := 16) o dX8_judge_7 (by decide) (fun c4 => ?_) (fun c4 => ?_)
    · exact absurd c4 (by decide)
    · refine z_aload_n (j := 1) o dX8_judge_10 rfl ?_
      refine z_iload_n (j := 0) o dX8_judge_11 rfl ?_
      refine z_callVi (As := [.int (-1000000001)]) (n := 1) (st := []) o dX8_judge_12 (c_X8_error hB M N 1 (by omega)) zc_X8_101 (by decide) (i := 82) (by rw [hB]; exact zsh_lt rfl (by decide)) (zg_o rfl (by decide)) rfl rfl rfl (Nat.le_of_ble_eq_true rfl) (fun r5 g6 p7 => ?_)
      obtain ⟨rfl, rfl⟩ := p7
      exact kret _ _ _ _ dX8_judge_15 ⟨by unfold sq_judge;  rw [if_pos q1] <;> (try rfl), by unfold sq_judge;  rw [if_pos q1] <;> (try rw [upv_ne (by omega)]) <;> (try rfl)⟩
  obtain ⟨sa, hsa, esa⟩ := zin_lit (n := 3) rfl (by decide) q1
  subst esa
  by_cases q2 : M 87 sa = 0
  · refine zo_rw (y := -1000000002) (by unfold sq_nth; rw [if_neg q1, zn_nI (by omega), if_pos q2]) ?_
    refine z_istore_n (i := 2) (lv2 := [(2, .int (-1000000002)), (0, zref B 82), (1, .int (nI sa))]) o dX8_judge_5 rfl (by decide) rfl ?_
    refine z_iload_n (j := 0) o dX8_judge_6 rfl ?_
    refine z_ifeq (tgt := 16) o dX8_judge_7 (by decide) (fun c8 => ?_) (fun c8 => ?_)
    · exact absurd c8 (by decide)
    · refine z_aload_n (j := 1) o dX8_judge_10 rfl ?_
      refine z_iload_n (j := 0) o dX8_judge_11 rfl ?_
      refine z_callVi (As := [.int (-1000000002)]) (n := 1) (st := []) o dX8_judge_12 (c_X8_error hB M N 2 (by omega)) zc_X8_101 (by decide) (i := 82) (by rw [hB]; exact zsh_lt rfl (by decide)) (zg_o rfl (by decide)) rfl rfl rfl (Nat.le_of_ble_eq_true rfl) (fun r9 g10 p11 => ?_)
      obtain ⟨rfl, rfl⟩ := p11
      exact kret _ _ _ _ dX8_judge_15 ⟨by unfold sq_judge; (try rw [zn_nI (n := sa) (by omega)]); rw [if_neg q1, if_pos q2] <;> (try rfl), by unfold sq_judge; (try rw [zn_nI (n := sa) (by omega)]); rw [if_neg q1, if_pos q2] <;> (try rw [upv_ne (by omega)]) <;> (try rfl)⟩
  · refine zo_rw (y := 0) (by unfold sq_nth; rw [if_neg q1, zn_nI (by omega), if_neg q2]) ?_
    obtain ⟨hsn, hsn24⟩ := sh_n2 hsh (s := sa) (by omega)
    refine z_istore_n (i := 2) (lv2 := [(2, .int 0), (0, zref B 82), (1, .int (nI sa))]) o dX8_judge_5 rfl (by decide) rfl ?_
    refine z_iload_n (j := 0) o dX8_judge_6 rfl ?_
    refine z_ifeq (tgt := 16) o dX8_judge_7 (by decide) (fun c12 => ?_) (fun c12 => ?_)
    · refine z_iconst (v := 0) o dX8_judge_16 (by decide) ?_
      refine z_istore_n (i := 3) (lv2 := [(3, .int 0), (2, .int 0), (0, zref B 82), (1, .int (nI sa))]) o dX8_judge_17 rfl (by decide) rfl ?_
      have LOOP : ∀ nq kq : Nat, kq + nq = min (sh_n M sa) (sp_nc (M 83)) → sp_jud (M 89) (M 83) sa (min (sh_n M sa) (sp_nc (M 83))) 0 = sp_jud (M 89) (M 83) sa nq kq → zW X B (zg B M N) 18 [(3, .int (nI kq)), (2, .int 0), (0, zref B 82), (1, .int (nI sa))] [] := by
        intro nq
        induction nq with
        | zero =>
          intro kq hkq hs
          have hz : sh_n M sa ≤ kq ∨ sp_nc (M 83) ≤ kq := by omega
          rcases Nat.lt_or_ge kq (sh_n M sa) with z1 | z1
          · have z2 : sp_nc (M 83) ≤ kq := by omega
            refine z_iload_n (j := 0) o dX8_judge_18 rfl ?_
            refine z_aload_n (j := 2) o dX8_judge_19 rfl ?_
            refine zo_get (i := 82) o hB dX8_judge_20 zf_X8_25 rfl (by decide) rfl ?_
            refine z_iload_n (j := 3) o dX8_judge_23 rfl ?_
            refine zo_iald (i := 88) (j := sa) o hB dX8_judge_24 rfl (show sa < 4 by omega) (by decide) ?_
            refine zo_rw (y := nI (sh_n M sa)) (hsn) ?_
            refine z_icmpge (tgt := 73) o dX8_judge_25 (by decide) (fun c13 => ?_) (fun c13 => ?_)
            · exact absurd (nI_lt (a := kq) (b := sh_n M sa) (by omega) (by omega)) c13
            · refine z_iload_n (j := 0) o dX8_judge_28 rfl ?_
              refine z_aload_n (j := 2) o dX8_judge_29 rfl ?_
              refine zo_get (i := 82) o hB dX8_judge_30 zf_X8_9 rfl (by decide) rfl ?_
              refine z_iconst (v := 3) o dX8_judge_33 (by decide) ?_
              refine zo_iald (i := 83) (j := 3) o hB dX8_judge_34 rfl (show 3 < 524 by omega) (by decide) ?_
              refine zo_rw (y := nI (sp_nc (M 83))) (hnc) ?_
              refine z_icmpge (tgt := 73) o dX8_judge_35 (by decide) (fun c14 => ?_) (fun c14 => ?_)
              · refine z_iload_n (j := 0) o dX8_judge_73 rfl ?_
                exact kret _ _ _ _ dX8_judge_74 ⟨by unfold sq_judge; rw [zn_nI (by omega), if_neg q1, if_neg q2] <;> (try rfl), by unfold sq_judge; rw [zn_nI (by omega), if_neg q1, if_neg q2]; show nI kq = nI (sp_jud _ _ _ _ _); rw [hs]; rfl⟩
              · exact absurd c14 (nI_nlt (a := kq) (b := sp_nc (M 83)) (by omega) (by omega))
          · refine z_iload_n (j := 0) o dX8_judge_18 rfl ?_
            refine z_aload_n (j := 2) o dX8_judge_19 rfl ?_
            refine zo_get (i := 82) o hB dX8_judge_20 zf_X8_25 rfl (by decide) rfl ?_
            refine z_iload_n (j := 3) o dX8_judge_23 rfl ?_
            refine zo_iald (i := 88) (j := sa) o hB dX8_judge_24 rfl (show sa < 4 by omega) (by decide) ?_
            refine zo_rw (y := nI (sh_n M sa)) (hsn) ?_
            refine z_icmpge (tgt := 73) o dX8_judge_25 (by decide) (fun c15 => ?_) (fun c15 => ?_)
            · refine z_iload_n (j := 0) o dX8_judge_73 rfl ?_
              exact kret _ _ _ _ dX8_judge_74 ⟨by unfold sq_judge; rw [zn_nI (by omega), if_neg q1, if_neg q2] <;> (try rfl), by unfold sq_judge; rw [zn_nI (by omega), if_neg q1, if_neg q2]; show nI kq = nI (sp_jud _ _ _ _ _); rw [hs]; rfl⟩
            · exact absurd c15 (nI_nlt (a := kq) (b := sh_n M sa) (by omega) (by omega))
        | succ nq ih =>
          intro kq hkq hs
          have hlt : kq < sh_n M sa := by omega
          have hlt2 : kq < sp_nc (M 83) := by omega
          obtain ⟨cq, hcq, ecq⟩ := hok.1 _ _ (zbd_c (i := kq) (by omega))
          refine z_iload_n (j := 0) o dX8_judge_18 rfl ?_
          refine z_aload_n (j := 2) o dX8_judge_19 rfl ?_
          refine zo_get (i := 82) o hB dX8_judge_20 zf_X8_25 rfl (by decide) rfl ?_
          refine z_iload_n (j := 3) o dX8_judge_23 rfl ?_
          refine zo_iald (i := 88) (j := sa) o hB dX8_judge_24 rfl (show sa < 4 by omega) (by decide) ?_
          refine zo_rw (y := nI (sh_n M sa)) (hsn) ?_
          refine z_icmpge (tgt := 73) o dX8_judge_25 (by decide) (fun c16 => ?_) (fun c16 => ?_)
          · exact absurd (nI_lt (a := kq) (b := sh_n M sa) (by omega) (by omega)) c16
          · refine z_iload_n (j := 0) o dX8_judge_28 rfl ?_
            refine z_aload_n (j := 2) o dX8_judge_29 rfl ?_
            refine zo_get (i := 82) o hB dX8_judge_30 zf_X8_9 rfl (by decide) rfl ?_
            refine z_iconst (v := 3) o dX8_judge_33 (by decide) ?_
            refine zo_iald (i := 83) (j := 3) o hB dX8_judge_34 rfl (show 3 < 524 by omega) (by decide) ?_
            refine zo_rw (y := nI (sp_nc (M 83))) (hnc) ?_
            refine z_icmpge (tgt := 73) o dX8_judge_35 (by decide) (fun c17 => ?_) (fun c17 => ?_)
            · exact absurd (nI_lt (a := kq) (b := sp_nc (M 83)) (by omega) (by omega)) c17
            · refine z_aload_n (j := 2) o dX8_judge_38 rfl ?_
              refine zo_get (i := 82) o hB dX8_judge_39 zf_X8_28 rfl (by decide) rfl ?_
              refine z_bipush (v := 24) o dX8_judge_42 (by decide) ?_
              refine z_iload_n (j := 3) o dX8_judge_44 rfl ?_
              refine z_imul o dX8_judge_45 ?_
              refine zo_rw (y := nI (24 * sa)) (zn_mul (rfl) (rfl)) ?_
              refine z_iload_n (j := 0) o dX8_judge_46 rfl ?_
              refine z_iadd o dX8_judge_47 ?_
              refine zo_rw (y := nI (24 * sa + kq)) (zn_add (rfl) (rfl)) ?_
              refine zo_iald (i := 89) (j := 24 * sa + kq) o hB dX8_judge_48 rfl (show 24 * sa + kq < 96 by omega) (by decide) ?_
              refine z_aload_n (j := 2) o dX8_judge_49 rfl ?_
              refine z_aload_n (j := 2) o dX8_judge_50 rfl ?_
              refine zo_get (i := 82) o hB dX8_judge_51 zf_X8_9 rfl (by decide) rfl ?_
              refine z_bipush (v := 58) o dX8_judge_54 (by decide) ?_
              refine z_iconst (v := 2) o dX8_judge_56 (by decide) ?_
              refine z_iload_n (j := 0) o dX8_judge_57 rfl ?_
              refine z_imul o dX8_judge_58 ?_
              refine zo_rw (y := nI (2 * kq)) (zn_mul (rfl) (rfl)) ?_
              refine z_iadd o dX8_judge_59 ?_
              refine zo_rw (y := nI (58 + 2 * kq)) (zn_add (rfl) (rfl)) ?_
              refine zo_iald (i := 83) (j := 58 + 2 * kq) o hB dX8_judge_60 rfl (show 58 + 2 * kq < 524 by omega) (by decide) ?_
              refine zo_rw (y := nI cq) (ecq) ?_
              refine z_callVi (As := [.int (nI cq)]) (n := 1) (st := [.int (M 89 (24 * sa + kq))]) o dX8_judge_61 (c_X8_brandOf hB M N cq (by omega) hok.1) zc_X8_127 (by decide) (i := 82) (by rw [hB]; exact zsh_lt rfl (by decide)) (zg_o rfl (by decide)) rfl rfl rfl (Nat.le_of_ble_eq_true rfl) (fun r18 g19 p20 => ?_)
              obtain ⟨rfl, rfl⟩ := p20
              refine z_icmpne (tgt := 73) o dX8_judge_64 (by decide) (fun c21 => ?_) (fun c21 => ?_)
              · have hs2 : sp_jud (M 89) (M 83) sa (min (sh_n M sa) (sp_nc (M 83))) 0 = kq := by
                  rw [hs]; show (if M 89 (24 * sa + kq) = sp_brand (M 83) (zn (M 83 (58 + 2 * kq))) then _ else _) = _; rw [ecq, zn_nI (by omega), if_neg c21]
                refine z_iload_n (j := 0) o dX8_judge_73 rfl ?_
                exact kret _ _ _ _ dX8_judge_74 ⟨by unfold sq_judge; rw [zn_nI (by omega), if_neg q1, if_neg q2] <;> (try rfl), by unfold sq_judge; rw [zn_nI (by omega), if_neg q1, if_neg q2]; show nI kq = nI (sp_jud _ _ _ _ _); rw [hs2]⟩
              · have hs2 : sp_jud (M 89) (M 83) sa (min (sh_n M sa) (sp_nc (M 83))) 0 = sp_jud (M 89) (M 83) sa nq (kq + 1) := by
                  rw [hs]; show (if M 89 (24 * sa + kq) = sp_brand (M 83) (zn (M 83 (58 + 2 * kq))) then _ else _) = _; rw [ecq, zn_nI (by omega), if_pos c21]
                refine z_iinc (j := 0) (v := nI (kq + 1)) (lv2 := [(3, .int (nI (kq + 1))), (2, .int 0), (0, zref B 82), (1, .int (nI sa))]) o dX8_judge_67 rfl (zn_ofInt _) (by decide) rfl ?_
                refine z_goto (tgt := 18) o dX8_judge_70 (by decide) ?_
                refine zo_lv [0, 1, 2, 3] rfl ?_
                exact ih (kq + 1) (by omega) hs2
      refine zo_lv [0, 1, 2, 3] rfl ?_
      exact LOOP (min (sh_n M sa) (sp_nc (M 83))) 0 (by omega) rfl
    · exact absurd c12 (by decide)

def sq_sets (M : zM) (f : Int32) (s : Int32) : Int32 × zM :=
  if zin f 0 (M 83 2 - 1) = 0 then (zE 1, zEr M 1) else if zin s 0 3 = 0 then (zE 1, zEr M 1) else if M 87 (zn s) = 0 then (zE 2, zEr M 2) else
  (nI (sp_sets (M 89) (zn s) (zn f) (min (sh_n M (zn s)) 8) 0 (M 83)).1, va_up M 83 (upd (sp_sets (M 89) (zn s) (zn f) (min (sh_n M (zn s)) 8) 0 (M 83)).2 (6 + 13 * zn f + 3) (nI (sp_sets (M 89) (zn s) (zn f) (min (sh_n M (zn s)) 8) 0 (M 83)).1)))
set_option maxHeartbeats 4000000 in
set_option maxRecDepth 100000 in
theorem c_X8_sets {B : zB} (hB : znn B = 95) (M : zM) (N : zN) (f : Int32) (s : Int32) (hok : zOkAll (M 83)) (hsh : zShOk M) : zCi B (zg B M N) yX8_sets cX8_sets 4 (some .int) 5 [zref B 82, .int f, .int s] (fun r g' => g' = zg B (sq_sets M f s).2 N ∧ r = (sq_sets M f s).1) := by
  refine zCi_of (by decide +kernel) (Nat.le_of_ble_eq_true rfl) .int rfl (fun _ _ _ => rfl) ?_
  intro X o kret
  show zW X B (zg B M N) 0 [(0, zref B 82), (1, .int f), (2, .int s)] []
  obtain ⟨hnf, hnf4⟩ := ok_nf2 hok.1
  obtain ⟨hnc, hnc6⟩ := ok_nc2 hok.1
  refine z_aload_n (j := 0) o dX8_sets_0 rfl ?_
  refine z_iload_n (j := 1) o dX8_sets_1 rfl ?_
  refine z_callVi (As := [.int f]) (n := 1) (st := []) o dX8_sets_2 (c_X8_isFence hB M N f) zc_X8_106 (by decide) (i := 82) (by rw [hB]; exact zsh_lt rfl (by decide)) (zg_o rfl (by decide)) rfl rfl rfl (Nat.le_of_ble_eq_true rfl) (fun r1 g2 p3 => ?_)
  obtain ⟨rfl, rfl⟩ := p3
  refine z_ifeq (tgt := 15) o dX8_sets_5 (by decide) (fun c4 => ?_) (fun c4 => ?_)
  · refine z_aload_n (j := 0) o dX8_sets_15 rfl ?_
    refine z_ldc (v := (-1000000001)) o dX8_sets_16 zk_X8_100 ?_
    refine z_callVi (As := [.int (-1000000001)]) (n := 1) (st := []) o dX8_sets_18 (c_X8_error hB M N 1 (by omega)) zc_X8_101 (by decide) (i := 82) (by rw [hB]; exact zsh_lt rfl (by decide)) (zg_o rfl (by decide)) rfl rfl rfl (Nat.le_of_ble_eq_true rfl) (fun r5 g6 p7 => ?_)
    obtain ⟨rfl, rfl⟩ := p7
    exact kret _ _ _ _ dX8_sets_21 ⟨by unfold sq_sets;  rw [if_pos c4] <;> (try rfl), by unfold sq_sets;  rw [if_pos c4] <;> (try rw [upv_ne (by omega)]) <;> (try rfl)⟩
  · have hzf := c4
    rw [hnf] at hzf
    obtain ⟨fa, hfa, efa⟩ := zin_nat (by omega) hzf
    subst efa
    refine z_iload_n (j := 2) o dX8_sets_8 rfl ?_
    refine z_callSi (As := [.int s]) (n := 1) (st := []) o dX8_sets_9 (c_X8_isSheet hB M N s) zc_X8_227 (by decide) rfl rfl (Nat.le_of_ble_eq_true rfl) (fun r8 g9 p10 => ?_)
    obtain ⟨rfl, rfl⟩ := p10
    refine z_ifne (tgt := 22) o dX8_sets_12 (by decide) (fun c11 => ?_) (fun c11 => ?_)
    · obtain ⟨sa, hsa, esa⟩ := zin_lit (n := 3) rfl (by decide) c11
      subst esa
      refine z_aload_n (j := 0) o dX8_sets_22 rfl ?_
      refine zo_get (i := 82) o hB dX8_sets_23 zf_X8_22 rfl (by decide) rfl ?_
      refine z_iload_n (j := 2) o dX8_sets_26 rfl ?_
      refine zo_iald (i := 87) (j := sa) o hB dX8_sets_27 rfl (show sa < 4 by omega) (by decide) ?_
      refine z_ifne (tgt := 38) o dX8_sets_28 (by decide) (fun c12 => ?_) (fun c12 => ?_)
      · refine z_iconst (v := 0) o dX8_sets_38 (by decide) ?_
        refine z_istore_n (i := 3) (lv2 := [(3, .int 0), (0, zref B 82), (1, .int (nI fa)), (2, .int (nI sa))]) o dX8_sets_39 rfl (by decide) rfl ?_
        obtain ⟨hsn, hsn24⟩ := sh_n2 hsh (s := sa) (by omega)
        have LOOP : ∀ nq kq : Nat, kq + nq = min (sh_n M sa) 8 → ∀ (ρ : Nat → Int32), sp_sets (M 89) sa fa (min (sh_n M sa) 8) 0 (M 83) = sp_sets (M 89) sa fa nq kq ρ → ∀ M1 : zM, M1 = va_up M 83 ρ → zW X B (zg B M1 N) 40 [(3, .int (nI kq)), (0, zref B 82), (1, .int (nI fa)), (2, .int (nI sa))] [] := by
          intro nq
          induction nq with
          | zero =>
            intro kq hkq ρ hs M1 hM1
            have hz : sh_n M sa ≤ kq ∨ 8 ≤ kq := by omega
            have e89 : M1 89 = M 89 := by rw [hM1, va_up_ne _ _ (by decide)]
            have e83 : M1 83 = ρ := by rw [hM1, va_up_self]
            have hs2 : sp_sets (M 89) sa fa (min (sh_n M sa) 8) 0 (M 83) = (kq, ρ) := hs
            rcases Nat.lt_or_ge kq (sh_n M sa) with z1 | z1
            · have z2 : 8 ≤ kq := by omega
              refine z_iload_n (j := 0) o dX8_sets_40 rfl ?_
              refine z_aload_n (j := 1) o dX8_sets_41 rfl ?_
              refine zo_get (i := 82) o hB dX8_sets_42 zf_X8_25 rfl (by decide) rfl ?_
              refine z_iload_n (j := 3) o dX8_sets_45 rfl ?_
              refine zo_iald (i := 88) (j := sa) o hB dX8_sets_46 rfl (show sa < 4 by omega) (by decide) ?_
              refine zo_rw (y := nI (sh_n M sa)) (by rw [hM1, va_up_ne _ _ (by decide)]; exact hsn) ?_
              refine z_icmpge (tgt := 98) o dX8_sets_47 (by decide) (fun c13 => ?_) (fun c13 => ?_)
              · exact absurd (nI_lt (a := kq) (b := sh_n M sa) (by omega) (by omega)) c13
              · refine z_iload_n (j := 0) o dX8_sets_50 rfl ?_
                refine z_bipush (v := 8) o dX8_sets_51 (by decide) ?_
                refine z_icmpge (tgt := 98) o dX8_sets_53 (by decide) (fun c14 => ?_) (fun c14 => ?_)
                · refine z_aload_n (j := 1) o dX8_sets_98 rfl ?_
                  refine z_iload_n (j := 2) o dX8_sets_99 rfl ?_
                  refine z_iconst (v := 3) o dX8_sets_100 (by decide) ?_
                  refine z_iload_n (j := 0) o dX8_sets_101 rfl ?_
                  refine z_callVv (As := [.int (nI fa), .int 3, .int (nI kq)]) (n := 3) (st := []) o dX8_sets_102 (c_X8_lets hB M1 N fa 3 (nI kq) (by omega)) zc_X8_65 (by decide) (i := 82) (by rw [hB]; exact zsh_lt rfl (by decide)) (zg_o rfl (by decide)) rfl rfl rfl (Nat.le_of_ble_eq_true rfl) (fun g16 p17 => ?_)
                  cases p17
                  refine zo_nm (fun M18 hM18 => ?_)
                  refine z_iload_n (j := 0) o dX8_sets_105 rfl ?_
                  exact kret _ _ _ _ dX8_sets_106 ⟨by unfold sq_sets; simp only [zn_nI (n := fa) (show fa < 2 ^ 31 by omega), zn_nI (n := sa) (show sa < 2 ^ 31 by omega)]; rw [if_neg c4, if_neg c11, if_neg c12, hs2, hM18, hM1, zu_va] <;> (try rfl), by unfold sq_sets; simp only [zn_nI (n := fa) (show fa < 2 ^ 31 by omega), zn_nI (n := sa) (show sa < 2 ^ 31 by omega)]; rw [if_neg c4, if_neg c11, if_neg c12, hs2] <;> (try rfl)⟩
                · exact absurd c14 (nI_nlt (a := kq) (b := 8) (by omega) (by omega))
            · refine z_iload_n (j := 0) o dX8_sets_40 rfl ?_
              refine z_aload_n (j := 1) o dX8_sets_41 rfl ?_
              refine zo_get (i := 82) o hB dX8_sets_42 zf_X8_25 rfl (by decide) rfl ?_
              refine z_iload_n (j := 3) o dX8_sets_45 rfl ?_
              refine zo_iald (i := 88) (j := sa) o hB dX8_sets_46 rfl (show sa < 4 by omega) (by decide) ?_
              refine zo_rw (y := nI (sh_n M sa)) (by rw [hM1, va_up_ne _ _ (by decide)]; exact hsn) ?_
              refine z_icmpge (tgt := 98) o dX8_sets_47 (by decide) (fun c19 => ?_) (fun c19 => ?_)
              · refine z_aload_n (j := 1) o dX8_sets_98 rfl ?_
                refine z_iload_n (j := 2) o dX8_sets_99 rfl ?_
                refine z_iconst (v := 3) o dX8_sets_100 (by decide) ?_
                refine z_iload_n (j := 0) o dX8_sets_101 rfl ?_
                refine z_callVv (As := [.int (nI fa), .int 3, .int (nI kq)]) (n := 3) (st := []) o dX8_sets_102 (c_X8_lets hB M1 N fa 3 (nI kq) (by omega)) zc_X8_65 (by decide) (i := 82) (by rw [hB]; exact zsh_lt rfl (by decide)) (zg_o rfl (by decide)) rfl rfl rfl (Nat.le_of_ble_eq_true rfl) (fun g21 p22 => ?_)
                cases p22
                refine zo_nm (fun M23 hM23 => ?_)
                refine z_iload_n (j := 0) o dX8_sets_105 rfl ?_
                exact kret _ _ _ _ dX8_sets_106 ⟨by unfold sq_sets; simp only [zn_nI (n := fa) (show fa < 2 ^ 31 by omega), zn_nI (n := sa) (show sa < 2 ^ 31 by omega)]; rw [if_neg c4, if_neg c11, if_neg c12, hs2, hM23, hM1, zu_va] <;> (try rfl), by unfold sq_sets; simp only [zn_nI (n := fa) (show fa < 2 ^ 31 by omega), zn_nI (n := sa) (show sa < 2 ^ 31 by omega)]; rw [if_neg c4, if_neg c11, if_neg c12, hs2] <;> (try rfl)⟩
              · exact absurd c19 (nI_nlt (a := kq) (b := sh_n M sa) (by omega) (by omega))
          | succ nq ih =>
            intro kq hkq ρ hs M1 hM1
            have hlt : kq < sh_n M sa := by omega
            have hlt2 : kq < 8 := by omega
            have e89 : M1 89 = M 89 := by rw [hM1, va_up_ne _ _ (by decide)]
            have e83 : M1 83 = ρ := by rw [hM1, va_up_self]
            refine z_iload_n (j := 0) o dX8_sets_40 rfl ?_
            refine z_aload_n (j := 1) o dX8_sets_41 rfl ?_
            refine zo_get (i := 82) o hB dX8_sets_42 zf_X8_25 rfl (by decide) rfl ?_
            refine z_iload_n (j := 3) o dX8_sets_45 rfl ?_
            refine zo_iald (i := 88) (j := sa) o hB dX8_sets_46 rfl (show sa < 4 by omega) (by decide) ?_
            refine zo_rw (y := nI (sh_n M sa)) (by rw [hM1, va_up_ne _ _ (by decide)]; exact hsn) ?_
            refine z_icmpge (tgt := 98) o dX8_sets_47 (by decide) (fun c24 => ?_) (fun c24 => ?_)
            · exact absurd (nI_lt (a := kq) (b := sh_n M sa) (by omega) (by omega)) c24
            · refine z_iload_n (j := 0) o dX8_sets_50 rfl ?_
              refine z_bipush (v := 8) o dX8_sets_51 (by decide) ?_
              refine z_icmpge (tgt := 98) o dX8_sets_53 (by decide) (fun c25 => ?_) (fun c25 => ?_)
              · exact absurd (nI_lt (a := kq) (b := 8) (by omega) (by omega)) c25
              · refine z_aload_n (j := 1) o dX8_sets_56 rfl ?_
                refine zo_get (i := 82) o hB dX8_sets_57 zf_X8_28 rfl (by decide) rfl ?_
                refine z_bipush (v := 24) o dX8_sets_60 (by decide) ?_
                refine z_iload_n (j := 3) o dX8_sets_62 rfl ?_
                refine z_imul o dX8_sets_63 ?_
                refine zo_rw (y := nI (24 * sa)) (zn_mul (rfl) (rfl)) ?_
                refine z_iload_n (j := 0) o dX8_sets_64 rfl ?_
                refine z_iadd o dX8_sets_65 ?_
                refine zo_rw (y := nI (24 * sa + kq)) (zn_add (rfl) (rfl)) ?_
                refine zo_iald (i := 89) (j := 24 * sa + kq) o hB dX8_sets_66 rfl (show 24 * sa + kq < 96 by omega) (by decide) ?_
                refine zo_rw (y := M 89 (24 * sa + kq)) (by rw [e89]) ?_
                refine z_callSi (As := [.int (M 89 (24 * sa + kq))]) (n := 1) (st := []) o dX8_sets_67 (c_X8_isCell hB M1 N (M 89 (24 * sa + kq))) zc_X8_109 (by decide) rfl rfl (Nat.le_of_ble_eq_true rfl) (fun r26 g27 p28 => ?_)
                obtain ⟨rfl, rfl⟩ := p28
                refine z_ifeq (tgt := 98) o dX8_sets_70 (by decide) (fun c29 => ?_) (fun c29 => ?_)
                · have hs2 : sp_sets (M 89) sa fa (min (sh_n M sa) 8) 0 (M 83) = (kq, ρ) := by
                    rw [hs]; show (if zin (M 89 (24 * sa + kq)) 0 63 = 0 then (kq, ρ) else sp_sets (M 89) sa fa nq (kq + 1) (upd ρ (6 + 13 * fa + (5 + kq)) (M 89 (24 * sa + kq)))) = _; rw [if_pos c29]
                  refine z_aload_n (j := 1) o dX8_sets_98 rfl ?_
                  refine z_iload_n (j := 2) o dX8_sets_99 rfl ?_
                  refine z_iconst (v := 3) o dX8_sets_100 (by decide) ?_
                  refine z_iload_n (j := 0) o dX8_sets_101 rfl ?_
                  refine z_callVv (As := [.int (nI fa), .int 3, .int (nI kq)]) (n := 3) (st := []) o dX8_sets_102 (c_X8_lets hB M1 N fa 3 (nI kq) (by omega)) zc_X8_65 (by decide) (i := 82) (by rw [hB]; exact zsh_lt rfl (by decide)) (zg_o rfl (by decide)) rfl rfl rfl (Nat.le_of_ble_eq_true rfl) (fun g31 p32 => ?_)
                  cases p32
                  refine zo_nm (fun M33 hM33 => ?_)
                  refine z_iload_n (j := 0) o dX8_sets_105 rfl ?_
                  exact kret _ _ _ _ dX8_sets_106 ⟨by unfold sq_sets; simp only [zn_nI (n := fa) (show fa < 2 ^ 31 by omega), zn_nI (n := sa) (show sa < 2 ^ 31 by omega)]; rw [if_neg c4, if_neg c11, if_neg c12, hs2, hM33, hM1, zu_va] <;> (try rfl), by unfold sq_sets; simp only [zn_nI (n := fa) (show fa < 2 ^ 31 by omega), zn_nI (n := sa) (show sa < 2 ^ 31 by omega)]; rw [if_neg c4, if_neg c11, if_neg c12, hs2] <;> (try rfl)⟩
                · have hs2 : sp_sets (M 89) sa fa (min (sh_n M sa) 8) 0 (M 83) = sp_sets (M 89) sa fa nq (kq + 1) (upd ρ (6 + 13 * fa + (5 + kq)) (M 89 (24 * sa + kq))) := by
                    rw [hs]; show (if zin (M 89 (24 * sa + kq)) 0 63 = 0 then (kq, ρ) else sp_sets (M 89) sa fa nq (kq + 1) (upd ρ (6 + 13 * fa + (5 + kq)) (M 89 (24 * sa + kq)))) = _; rw [if_neg c29]
                  refine z_aload_n (j := 1) o dX8_sets_73 rfl ?_
                  refine z_iload_n (j := 2) o dX8_sets_74 rfl ?_
                  refine z_iconst (v := 5) o dX8_sets_75 (by decide) ?_
                  refine z_iload_n (j := 0) o dX8_sets_76 rfl ?_
                  refine z_iadd o dX8_sets_77 ?_
                  refine zo_rw (y := nI (5 + kq)) (zn_add (rfl) (rfl)) ?_
                  refine z_aload_n (j := 1) o dX8_sets_78 rfl ?_
                  refine zo_get (i := 82) o hB dX8_sets_79 zf_X8_28 rfl (by decide) rfl ?_
                  refine z_bipush (v := 24) o dX8_sets_82 (by decide) ?_
                  refine z_iload_n (j := 3) o dX8_sets_84 rfl ?_
                  refine z_imul o dX8_sets_85 ?_
                  refine zo_rw (y := nI (24 * sa)) (zn_mul (rfl) (rfl)) ?_
                  refine z_iload_n (j := 0) o dX8_sets_86 rfl ?_
                  refine z_iadd o dX8_sets_87 ?_
                  refine zo_rw (y := nI (24 * sa + kq)) (zn_add (rfl) (rfl)) ?_
                  refine zo_iald (i := 89) (j := 24 * sa + kq) o hB dX8_sets_88 rfl (show 24 * sa + kq < 96 by omega) (by decide) ?_
                  refine zo_rw (y := M 89 (24 * sa + kq)) (by rw [e89]) ?_
                  refine z_callVv (As := [.int (nI fa), .int (nI (5 + kq)), .int (M 89 (24 * sa + kq))]) (n := 3) (st := []) o dX8_sets_89 (c_X8_lets hB M1 N fa (5 + kq) (M 89 (24 * sa + kq)) (by omega)) zc_X8_65 (by decide) (i := 82) (by rw [hB]; exact zsh_lt rfl (by decide)) (zg_o rfl (by decide)) rfl rfl rfl (Nat.le_of_ble_eq_true rfl) (fun g35 p36 => ?_)
                  cases p36
                  refine zo_nm (fun M37 hM37 => ?_)
                  refine z_iinc (j := 0) (v := nI (kq + 1)) (lv2 := [(3, .int (nI (kq + 1))), (0, zref B 82), (1, .int (nI fa)), (2, .int (nI sa))]) o dX8_sets_92 rfl (zn_ofInt _) (by decide) rfl ?_
                  refine z_goto (tgt := 40) o dX8_sets_95 (by decide) ?_
                  refine zo_lv [0, 1, 2, 3] rfl ?_
                  exact ih (kq + 1) (by omega) _ hs2 M37 (by rw [hM37, hM1, zu_va])
        refine zo_lv [0, 1, 2, 3] rfl ?_
        exact LOOP (min (sh_n M sa) 8) 0 (by omega) (M 83) rfl M (va_up_id M 83).symm
      · refine z_aload_n (j := 0) o dX8_sets_31 rfl ?_
        refine z_ldc (v := (-1000000002)) o dX8_sets_32 zk_X8_218 ?_
        refine z_callVi (As := [.int (-1000000002)]) (n := 1) (st := []) o dX8_sets_34 (c_X8_error hB M N 2 (by omega)) zc_X8_101 (by decide) (i := 82) (by rw [hB]; exact zsh_lt rfl (by decide)) (zg_o rfl (by decide)) rfl rfl rfl (Nat.le_of_ble_eq_true rfl) (fun r38 g39 p40 => ?_)
        obtain ⟨rfl, rfl⟩ := p40
        exact kret _ _ _ _ dX8_sets_37 ⟨by unfold sq_sets; (try rw [zn_nI (n := fa) (by omega)]); (try rw [zn_nI (n := sa) (by omega)]); rw [if_neg c4, if_neg c11, if_pos c12] <;> (try rfl), by unfold sq_sets; (try rw [zn_nI (n := fa) (by omega)]); (try rw [zn_nI (n := sa) (by omega)]); rw [if_neg c4, if_neg c11, if_pos c12] <;> (try rw [upv_ne (by omega)]) <;> (try rfl)⟩
    · refine z_aload_n (j := 0) o dX8_sets_15 rfl ?_
      refine z_ldc (v := (-1000000001)) o dX8_sets_16 zk_X8_100 ?_
      refine z_callVi (As := [.int (-1000000001)]) (n := 1) (st := []) o dX8_sets_18 (c_X8_error hB M N 1 (by omega)) zc_X8_101 (by decide) (i := 82) (by rw [hB]; exact zsh_lt rfl (by decide)) (zg_o rfl (by decide)) rfl rfl rfl (Nat.le_of_ble_eq_true rfl) (fun r41 g42 p43 => ?_)
      obtain ⟨rfl, rfl⟩ := p43
      exact kret _ _ _ _ dX8_sets_21 ⟨by unfold sq_sets; (try rw [zn_nI (n := fa) (by omega)]); rw [if_neg c4, if_pos c11] <;> (try rfl), by unfold sq_sets; (try rw [zn_nI (n := fa) (by omega)]); rw [if_neg c4, if_pos c11] <;> (try rw [upv_ne (by omega)]) <;> (try rfl)⟩

