/-! the class: a Fence begins, is copied, stands; what it may try -/
def bg_M (M : zM) (f : Nat) (km w : Int32) : zM := zu (zu (zu (zu (zu M f 2 (km / 10)) f 3 (zirem km 10)) f 4 w) f 1 0) f 5 0
def tr_s (hd : Nat → Int32) (x : Int64 × Int64) : Nat → Int64 × Int64
  | 0 => x
  | j + 1 => ((tr_s hd x j).1 ||| cg_nx (tr_s hd x j).1 (hd j), (tr_s hd x j).2 ||| cg_nx (tr_s hd x j).1 (hd j))
def tr_p (ρ : Nat → Int32) (i n : Nat) (x : Int32) : Nat → Int64
  | 0 => 0
  | p + 1 => (tr_s (fun j => cg_hd (ρ (6 + 13 * i + 0)) (ρ (6 + 13 * i + 1)) (ρ (6 + 13 * i + 2)) (nI p) (x + nI j)) (zlshl 1 (ρ (6 + 13 * i + (5 + p))), tr_p ρ i n x p) n).2
set_option maxHeartbeats 4000000 in
set_option maxRecDepth 100000 in
theorem c_X0_begin {B : zB} (hB : znn B = 95) (M : zM) (N : zN) (f : Nat) (km v : Int32) (hf : zsh f = 0) : zCv B (zg B M N) yX0_begin cX0_begin 3 none 0 [zref B f, .int km, .int v] (fun g' => g' = zg B (bg_M M f km v) N) := by
  refine zCv_of (by decide +kernel) (Nat.le_of_ble_eq_true rfl) ?_
  intro X o kret
  show zW X B (zg B M N) 0 [(0, zref B f), (1, .int km), (2, .int v)] []
  refine z_aload_n (j := 0) o dX0_begin_0 rfl ?_
  refine z_iload_n (j := 1) o dX0_begin_1 rfl ?_
  refine z_bipush (v := 10) o dX0_begin_2 (by decide) ?_
  refine z_idiv o dX0_begin_4 (by decide) ?_
  refine zo_put (i := f) o hB dX0_begin_5 zp_X0_15 hf (by decide) (by decide) (Nat.le_of_ble_eq_true rfl) ?_
  refine z_aload_n (j := 0) o dX0_begin_8 rfl ?_
  refine z_iload_n (j := 1) o dX0_begin_9 rfl ?_
  refine z_bipush (v := 10) o dX0_begin_10 (by decide) ?_
  refine z_irem o dX0_begin_12 (by decide) ?_
  refine zo_put (i := f) o hB dX0_begin_13 zp_X0_19 hf (by decide) (by decide) (Nat.le_of_ble_eq_true rfl) ?_
  refine z_aload_n (j := 0) o dX0_begin_16 rfl ?_
  refine z_iload_n (j := 2) o dX0_begin_17 rfl ?_
  refine zo_put (i := f) o hB dX0_begin_18 zp_X0_22 hf (by decide) (by decide) (Nat.le_of_ble_eq_true rfl) ?_
  refine z_aload_n (j := 0) o dX0_begin_21 rfl ?_
  refine z_iconst (v := 0) o dX0_begin_22 (by decide) ?_
  refine zo_put (i := f) o hB dX0_begin_23 zp_X0_25 hf (by decide) (by decide) (Nat.le_of_ble_eq_true rfl) ?_
  refine z_aload_n (j := 0) o dX0_begin_26 rfl ?_
  refine z_iconst (v := 0) o dX0_begin_27 (by decide) ?_
  refine zo_put (i := f) o hB dX0_begin_28 zp_X0_28 hf (by decide) (by decide) (Nat.le_of_ble_eq_true rfl) ?_
  exact kret _ _ _ dX0_begin_31 rfl

set_option maxHeartbeats 4000000 in
set_option maxRecDepth 100000 in
theorem c_X0_tried {B : zB} (hB : znn B = 95) (M : zM) (N : zN) (f i : Nat) (ρ : Nat → Int32) (x : Int32) (n : Nat) (hf : zsh f = 0) (hi4 : i < 4) (hok : zOkR ρ) (hF : zFn f M ρ i) (hn : n < 100) : zCl B (zg B M N) yX0_tried cX0_tried 11 (some .long) 2 [zref B f, .int x, .int (nI n)] (fun r g' => g' = zg B M N ∧ r = tr_p ρ i n x (sp_np ρ i)) := by
  refine zCl_of (by decide +kernel) (Nat.le_of_ble_eq_true rfl) ?_
  intro X o kret
  show zW X B (zg B M N) 0 [(0, zref B f), (1, .int x), (2, .int (nI n))] []
  obtain ⟨hnp, hnp8⟩ := ok_np2 hok hi4
  refine z_lconst (v := 0) o dX0_tried_0 (by decide) ?_
  refine z_lstore_n (i := 3) (lv2 := [(3, .long 0), (0, zref B f), (1, .int x), (2, .int (nI n))]) o dX0_tried_1 rfl (by decide) rfl ?_
  refine z_iconst (v := 0) o dX0_tried_2 (by decide) ?_
  refine z_istore (i := 5) (lv2 := [(5, .int 0), (3, .long 0), (0, zref B f), (1, .int x), (2, .int (nI n))]) o dX0_tried_3 (by decide) rfl ?_
  have LOOP : ∀ nq kq : Nat, kq + nq = sp_np ρ i → zW X B (zg B M N) 5 [(5, .int (nI kq)), (3, .long (tr_p ρ i n x kq)), (0, zref B f), (1, .int x), (2, .int (nI n))] [] := by
    intro nq
    induction nq with
    | zero =>
      intro kq hkkq
      have hqkq : sp_np ρ i = kq := by omega
      subst hqkq
      refine z_iload (j := 0) o dX0_tried_5 rfl ?_
      refine z_aload_n (j := 2) o dX0_tried_7 rfl ?_
      refine zo_get (i := f) o hB dX0_tried_8 zf_X0_25 hf (by decide) (rfl) ?_
      refine zo_rw (y := nI (sp_np ρ i)) (hF.1.trans hnp) ?_
      refine z_icmpge (tgt := 76) o dX0_tried_11 (by decide) (fun c1 => ?_) (fun c1 => ?_)
      · refine z_lload_n (j := 1) o dX0_tried_76 rfl ?_
        exact kret _ _ _ _ dX0_tried_77 ⟨rfl, rfl⟩
      · exact absurd c1 (nI_nlt (a := sp_np ρ i) (b := sp_np ρ i) (by omega) (by omega))
    | succ nq ihkq =>
      intro kq hkkq
      have hlkq : kq < sp_np ρ i := by omega
      refine z_iload (j := 0) o dX0_tried_5 rfl ?_
      refine z_aload_n (j := 2) o dX0_tried_7 rfl ?_
      refine zo_get (i := f) o hB dX0_tried_8 zf_X0_25 hf (by decide) (rfl) ?_
      refine zo_rw (y := nI (sp_np ρ i)) (hF.1.trans hnp) ?_
      refine z_icmpge (tgt := 76) o dX0_tried_11 (by decide) (fun c2 => ?_) (fun c2 => ?_)
      · exact absurd (nI_lt (a := kq) (b := sp_np ρ i) (by omega) (by omega)) c2
      · refine z_aload_n (j := 2) o dX0_tried_14 rfl ?_
        refine zo_get (i := f) o hB dX0_tried_15 zf_X0_11 hf (by decide) (rfl) ?_
        refine z_iload (j := 0) o dX0_tried_18 rfl ?_
        refine zo_iald (i := f + 1) (j := kq) o hB dX0_tried_20 (zh_F hf) (by rw [(zh_Fn hf)]; omega) (by rw [(zh_Fn hf)]; decide) ?_
        refine zo_rw (y := ρ (6 + 13 * i + (5 + kq))) (hF.2.2.2.2.2 kq (by omega)) ?_
        refine z_callSl (As := [.int (ρ (6 + 13 * i + (5 + kq)))]) (n := 1) (st := []) o dX0_tried_21 (c_X1_bit hB M N (ρ (6 + 13 * i + (5 + kq)))) zc_X0_62 (by decide) rfl rfl (Nat.le_of_ble_eq_true rfl) (fun r3 g4 p5 => ?_)
        obtain ⟨rfl, rfl⟩ := p5
        refine z_lstore (i := 6) (lv2 := [(6, .long (zlshl 1 (ρ (6 + 13 * i + (5 + kq))))), (5, .int (nI kq)), (3, .long (tr_p ρ i n x kq)), (0, zref B f), (1, .int x), (2, .int (nI n))]) o dX0_tried_24 (by decide) rfl ?_
        refine z_iconst (v := 0) o dX0_tried_26 (by decide) ?_
        refine z_istore (i := 8) (lv2 := [(8, .int 0), (6, .long (zlshl 1 (ρ (6 + 13 * i + (5 + kq))))), (5, .int (nI kq)), (3, .long (tr_p ρ i n x kq)), (0, zref B f), (1, .int x), (2, .int (nI n))]) o dX0_tried_27 (by decide) rfl ?_
        have LOOP2 : ∀ mq jq : Nat, jq + mq = n → zW X B (zg B M N) 29 [(8, .int (nI jq)), (6, .long ((tr_s (fun j => cg_hd (ρ (6 + 13 * i + 0)) (ρ (6 + 13 * i + 1)) (ρ (6 + 13 * i + 2)) (nI kq) (x + nI j)) (zlshl 1 (ρ (6 + 13 * i + (5 + kq))), tr_p ρ i n x kq) jq).1)), (3, .long ((tr_s (fun j => cg_hd (ρ (6 + 13 * i + 0)) (ρ (6 + 13 * i + 1)) (ρ (6 + 13 * i + 2)) (nI kq) (x + nI j)) (zlshl 1 (ρ (6 + 13 * i + (5 + kq))), tr_p ρ i n x kq) jq).2)), (5, .int (nI kq)), (0, zref B f), (1, .int x), (2, .int (nI n))] [] := by
          intro mq
          induction mq with
          | zero =>
            intro jq hkjq
            have hqjq : n = jq := by omega
            subst hqjq
            refine z_iload (j := 0) o dX0_tried_29 rfl ?_
            refine z_iload_n (j := 6) o dX0_tried_31 rfl ?_
            refine z_icmpge (tgt := 70) o dX0_tried_32 (by decide) (fun c6 => ?_) (fun c6 => ?_)
            · refine z_iinc (j := 3) (v := nI (kq + 1)) (lv2 := [(5, .int (nI (kq + 1))), (8, .int (nI n)), (6, .long ((tr_s (fun j => cg_hd (ρ (6 + 13 * i + 0)) (ρ (6 + 13 * i + 1)) (ρ (6 + 13 * i + 2)) (nI kq) (x + nI j)) (zlshl 1 (ρ (6 + 13 * i + (5 + kq))), tr_p ρ i n x kq) n).1)), (3, .long ((tr_s (fun j => cg_hd (ρ (6 + 13 * i + 0)) (ρ (6 + 13 * i + 1)) (ρ (6 + 13 * i + 2)) (nI kq) (x + nI j)) (zlshl 1 (ρ (6 + 13 * i + (5 + kq))), tr_p ρ i n x kq) n).2)), (0, zref B f), (1, .int x), (2, .int (nI n))]) o dX0_tried_70 rfl (zn_ofInt _) (by decide) rfl ?_
              refine z_goto (tgt := 5) o dX0_tried_73 (by decide) ?_
              refine zo_lv [0, 3, 4, 5, 6] rfl ?_
              exact ihkq (kq + 1) (by omega)
            · exact absurd c6 (nI_nlt (a := n) (b := n) (by omega) (by omega))
          | succ mq ihjq =>
            intro jq hkjq
            have hljq : jq < n := by omega
            refine z_iload (j := 0) o dX0_tried_29 rfl ?_
            refine z_iload_n (j := 6) o dX0_tried_31 rfl ?_
            refine z_icmpge (tgt := 70) o dX0_tried_32 (by decide) (fun c7 => ?_) (fun c7 => ?_)
            · exact absurd (nI_lt (a := jq) (b := n) (by omega) (by omega)) c7
            · refine z_lload (j := 1) o dX0_tried_35 rfl ?_
              refine z_aload_n (j := 4) o dX0_tried_37 rfl ?_
              refine z_iload (j := 3) o dX0_tried_38 rfl ?_
              refine z_iload_n (j := 5) o dX0_tried_40 rfl ?_
              refine z_iload (j := 0) o dX0_tried_41 rfl ?_
              refine z_iadd o dX0_tried_43 ?_
              refine z_callVi (As := [.int (nI kq), .int (x + (nI jq))]) (n := 2) (st := [.long ((tr_s (fun j => cg_hd (ρ (6 + 13 * i + 0)) (ρ (6 + 13 * i + 1)) (ρ (6 + 13 * i + 2)) (nI kq) (x + nI j)) (zlshl 1 (ρ (6 + 13 * i + (5 + kq))), tr_p ρ i n x kq) jq).1)]) o dX0_tried_44 (c_X0_headsAt hB M N f i ρ (nI kq) (x + (nI jq)) hf (by omega) hok hF) zc_X0_51 (by decide) (i := f) (by rw [hB]; exact zsh_lt hf (by decide)) (zg_o hf (by decide)) rfl rfl rfl (Nat.le_of_ble_eq_true rfl) (fun r8 g9 p10 => ?_)
              obtain ⟨rfl, rfl⟩ := p10
              refine z_callSl (As := [.long ((tr_s (fun j => cg_hd (ρ (6 + 13 * i + 0)) (ρ (6 + 13 * i + 1)) (ρ (6 + 13 * i + 2)) (nI kq) (x + nI j)) (zlshl 1 (ρ (6 + 13 * i + (5 + kq))), tr_p ρ i n x kq) jq).1), .int (cg_hd (ρ (6 + 13 * i + 0)) (ρ (6 + 13 * i + 1)) (ρ (6 + 13 * i + 2)) (nI kq) (x + (nI jq)))]) (n := 2) (st := []) o dX0_tried_47 (c_X1_nextOf hB M N ((tr_s (fun j => cg_hd (ρ (6 + 13 * i + 0)) (ρ (6 + 13 * i + 1)) (ρ (6 + 13 * i + 2)) (nI kq) (x + nI j)) (zlshl 1 (ρ (6 + 13 * i + (5 + kq))), tr_p ρ i n x kq) jq).1) (cg_hd (ρ (6 + 13 * i + 0)) (ρ (6 + 13 * i + 1)) (ρ (6 + 13 * i + 2)) (nI kq) (x + (nI jq)))) zc_X0_66 (by decide) rfl rfl (Nat.le_of_ble_eq_true rfl) (fun r11 g12 p13 => ?_)
              obtain ⟨rfl, rfl⟩ := p13
              refine z_lstore (i := 9) (lv2 := [(9, .long (cg_nx ((tr_s (fun j => cg_hd (ρ (6 + 13 * i + 0)) (ρ (6 + 13 * i + 1)) (ρ (6 + 13 * i + 2)) (nI kq) (x + nI j)) (zlshl 1 (ρ (6 + 13 * i + (5 + kq))), tr_p ρ i n x kq) jq).1) (cg_hd (ρ (6 + 13 * i + 0)) (ρ (6 + 13 * i + 1)) (ρ (6 + 13 * i + 2)) (nI kq) (x + (nI jq))))), (8, .int (nI jq)), (6, .long ((tr_s (fun j => cg_hd (ρ (6 + 13 * i + 0)) (ρ (6 + 13 * i + 1)) (ρ (6 + 13 * i + 2)) (nI kq) (x + nI j)) (zlshl 1 (ρ (6 + 13 * i + (5 + kq))), tr_p ρ i n x kq) jq).1)), (3, .long ((tr_s (fun j => cg_hd (ρ (6 + 13 * i + 0)) (ρ (6 + 13 * i + 1)) (ρ (6 + 13 * i + 2)) (nI kq) (x + nI j)) (zlshl 1 (ρ (6 + 13 * i + (5 + kq))), tr_p ρ i n x kq) jq).2)), (5, .int (nI kq)), (0, zref B f), (1, .int x), (2, .int (nI n))]) o dX0_tried_50 (by decide) rfl ?_
              refine z_lload_n (j := 3) o dX0_tried_52 rfl ?_
              refine z_lload (j := 0) o dX0_tried_53 rfl ?_
              refine z_lor o dX0_tried_55 ?_
              refine z_lstore_n (i := 3) (lv2 := [(3, .long (((tr_s (fun j => cg_hd (ρ (6 + 13 * i + 0)) (ρ (6 + 13 * i + 1)) (ρ (6 + 13 * i + 2)) (nI kq) (x + nI j)) (zlshl 1 (ρ (6 + 13 * i + (5 + kq))), tr_p ρ i n x kq) jq).2) ||| (cg_nx ((tr_s (fun j => cg_hd (ρ (6 + 13 * i + 0)) (ρ (6 + 13 * i + 1)) (ρ (6 + 13 * i + 2)) (nI kq) (x + nI j)) (zlshl 1 (ρ (6 + 13 * i + (5 + kq))), tr_p ρ i n x kq) jq).1) (cg_hd (ρ (6 + 13 * i + 0)) (ρ (6 + 13 * i + 1)) (ρ (6 + 13 * i + 2)) (nI kq) (x + (nI jq)))))), (9, .long (cg_nx ((tr_s (fun j => cg_hd (ρ (6 + 13 * i + 0)) (ρ (6 + 13 * i + 1)) (ρ (6 + 13 * i + 2)) (nI kq) (x + nI j)) (zlshl 1 (ρ (6 + 13 * i + (5 + kq))), tr_p ρ i n x kq) jq).1) (cg_hd (ρ (6 + 13 * i + 0)) (ρ (6 + 13 * i + 1)) (ρ (6 + 13 * i + 2)) (nI kq) (x + (nI jq))))), (8, .int (nI jq)), (6, .long ((tr_s (fun j => cg_hd (ρ (6 + 13 * i + 0)) (ρ (6 + 13 * i + 1)) (ρ (6 + 13 * i + 2)) (nI kq) (x + nI j)) (zlshl 1 (ρ (6 + 13 * i + (5 + kq))), tr_p ρ i n x kq) jq).1)), (5, .int (nI kq)), (0, zref B f), (1, .int x), (2, .int (nI n))]) o dX0_tried_56 rfl (by decide) rfl ?_
              refine z_lload (j := 3) o dX0_tried_57 rfl ?_
              refine z_lload (j := 1) o dX0_tried_59 rfl ?_
              refine z_lor o dX0_tried_61 ?_
              refine z_lstore (i := 6) (lv2 := [(6, .long (((tr_s (fun j => cg_hd (ρ (6 + 13 * i + 0)) (ρ (6 + 13 * i + 1)) (ρ (6 + 13 * i + 2)) (nI kq) (x + nI j)) (zlshl 1 (ρ (6 + 13 * i + (5 + kq))), tr_p ρ i n x kq) jq).1) ||| (cg_nx ((tr_s (fun j => cg_hd (ρ (6 + 13 * i + 0)) (ρ (6 + 13 * i + 1)) (ρ (6 + 13 * i + 2)) (nI kq) (x + nI j)) (zlshl 1 (ρ (6 + 13 * i + (5 + kq))), tr_p ρ i n x kq) jq).1) (cg_hd (ρ (6 + 13 * i + 0)) (ρ (6 + 13 * i + 1)) (ρ (6 + 13 * i + 2)) (nI kq) (x + (nI jq)))))), (3, .long (((tr_s (fun j => cg_hd (ρ (6 + 13 * i + 0)) (ρ (6 + 13 * i + 1)) (ρ (6 + 13 * i + 2)) (nI kq) (x + nI j)) (zlshl 1 (ρ (6 + 13 * i + (5 + kq))), tr_p ρ i n x kq) jq).2) ||| (cg_nx ((tr_s (fun j => cg_hd (ρ (6 + 13 * i + 0)) (ρ (6 + 13 * i + 1)) (ρ (6 + 13 * i + 2)) (nI kq) (x + nI j)) (zlshl 1 (ρ (6 + 13 * i + (5 + kq))), tr_p ρ i n x kq) jq).1) (cg_hd (ρ (6 + 13 * i + 0)) (ρ (6 + 13 * i + 1)) (ρ (6 + 13 * i + 2)) (nI kq) (x + (nI jq)))))), (9, .long (cg_nx ((tr_s (fun j => cg_hd (ρ (6 + 13 * i + 0)) (ρ (6 + 13 * i + 1)) (ρ (6 + 13 * i + 2)) (nI kq) (x + nI j)) (zlshl 1 (ρ (6 + 13 * i + (5 + kq))), tr_p ρ i n x kq) jq).1) (cg_hd (ρ (6 + 13 * i + 0)) (ρ (6 + 13 * i + 1)) (ρ (6 + 13 * i + 2)) (nI kq) (x + (nI jq))))), (8, .int (nI jq)), (5, .int (nI kq)), (0, zref B f), (1, .int x), (2, .int (nI n))]) o dX0_tried_62 (by decide) rfl ?_
              refine z_iinc (j := 3) (v := nI (jq + 1)) (lv2 := [(8, .int (nI (jq + 1))), (6, .long (((tr_s (fun j => cg_hd (ρ (6 + 13 * i + 0)) (ρ (6 + 13 * i + 1)) (ρ (6 + 13 * i + 2)) (nI kq) (x + nI j)) (zlshl 1 (ρ (6 + 13 * i + (5 + kq))), tr_p ρ i n x kq) jq).1) ||| (cg_nx ((tr_s (fun j => cg_hd (ρ (6 + 13 * i + 0)) (ρ (6 + 13 * i + 1)) (ρ (6 + 13 * i + 2)) (nI kq) (x + nI j)) (zlshl 1 (ρ (6 + 13 * i + (5 + kq))), tr_p ρ i n x kq) jq).1) (cg_hd (ρ (6 + 13 * i + 0)) (ρ (6 + 13 * i + 1)) (ρ (6 + 13 * i + 2)) (nI kq) (x + (nI jq)))))), (3, .long (((tr_s (fun j => cg_hd (ρ (6 + 13 * i + 0)) (ρ (6 + 13 * i + 1)) (ρ (6 + 13 * i + 2)) (nI kq) (x + nI j)) (zlshl 1 (ρ (6 + 13 * i + (5 + kq))), tr_p ρ i n x kq) jq).2) ||| (cg_nx ((tr_s (fun j => cg_hd (ρ (6 + 13 * i + 0)) (ρ (6 + 13 * i + 1)) (ρ (6 + 13 * i + 2)) (nI kq) (x + nI j)) (zlshl 1 (ρ (6 + 13 * i + (5 + kq))), tr_p ρ i n x kq) jq).1) (cg_hd (ρ (6 + 13 * i + 0)) (ρ (6 + 13 * i + 1)) (ρ (6 + 13 * i + 2)) (nI kq) (x + (nI jq)))))), (9, .long (cg_nx ((tr_s (fun j => cg_hd (ρ (6 + 13 * i + 0)) (ρ (6 + 13 * i + 1)) (ρ (6 + 13 * i + 2)) (nI kq) (x + nI j)) (zlshl 1 (ρ (6 + 13 * i + (5 + kq))), tr_p ρ i n x kq) jq).1) (cg_hd (ρ (6 + 13 * i + 0)) (ρ (6 + 13 * i + 1)) (ρ (6 + 13 * i + 2)) (nI kq) (x + (nI jq))))), (5, .int (nI kq)), (0, zref B f), (1, .int x), (2, .int (nI n))]) o dX0_tried_64 rfl (zn_ofInt _) (by decide) rfl ?_
              refine z_goto (tgt := 29) o dX0_tried_67 (by decide) ?_
              refine zo_lv [0, 1, 2, 4, 5, 6, 7] rfl ?_
              exact ihjq (jq + 1) (by omega)
        refine zo_lv [0, 1, 3, 2, 4, 5, 6] rfl ?_
        exact LOOP2 n 0 (by omega)
  exact LOOP (sp_np ρ i) 0 (by omega)

