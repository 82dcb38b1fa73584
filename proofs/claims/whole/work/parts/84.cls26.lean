/-! the class: sheets; trailing zeros -/
theorem zu_vb {M : zM} {i k : Nat} {F : Nat → Int32} {v : Int32} : zu (va_up M i F) i k v = va_up M i (upd F k v) := by
  unfold zu; rw [va_up_self, va_up_twice]
def cg_bits (b : Int32) : Int32 := if b = 0 then 1 else if b = 8 then 1 else if b = 16 then 1 else if b = 32 then 1 else 0
def cg_part (s i n : Int32) : Int32 := if i < 0 then 0 else if n < 0 then 0 else if s < n then 0 else if s - n < i then 0 else 1
theorem cg_bits_01 (b : Int32) : cg_bits b = 0 ∨ cg_bits b = 1 := by unfold cg_bits; (repeat' split) <;> first | exact Or.inl rfl | exact Or.inr rfl
theorem cg_part_01 (s i n : Int32) : cg_part s i n = 0 ∨ cg_part s i n = 1 := by unfold cg_part; (repeat' split) <;> first | exact Or.inl rfl | exact Or.inr rfl
set_option maxHeartbeats 4000000 in
set_option maxRecDepth 100000 in
theorem c_X4_isBits {B : zB} (hB : znn B = 95) (M : zM) (N : zN) (b : Int32) : zCi B (zg B M N) yX4_isBits cX4_isBits 1 (some .boolean) 0 [.int b] (fun r g' => g' = zg B M N ∧ r = cg_bits b) := by
  refine zCi_of (by decide +kernel) (Nat.le_of_ble_eq_true rfl) .boolean rfl (fun r _ h => zin_z r (by rw [h.2]; exact cg_bits_01 _)) ?_
  intro X o kret
  show zW X B (zg B M N) 0 [(0, .int b)] []
  refine z_iload_n (j := 0) o dX4_isBits_0 rfl ?_
  refine z_ifeq (tgt := 22) o dX4_isBits_1 (by decide) (fun c1 => ?_) (fun c1 => ?_)
  · refine z_iconst (v := 1) o dX4_isBits_22 (by decide) ?_
    refine z_goto (tgt := 27) o dX4_isBits_23 (by decide) ?_
    exact kret _ _ _ _ dX4_isBits_27 ⟨rfl, by unfold cg_bits; simp [*]⟩
  · refine z_iload_n (j := 0) o dX4_isBits_4 rfl ?_
    refine z_bipush (v := 8) o dX4_isBits_5 (by decide) ?_
    refine z_icmpeq (tgt := 22) o dX4_isBits_7 (by decide) (fun c2 => ?_) (fun c2 => ?_)
    · refine z_iconst (v := 1) o dX4_isBits_22 (by decide) ?_
      refine z_goto (tgt := 27) o dX4_isBits_23 (by decide) ?_
      exact kret _ _ _ _ dX4_isBits_27 ⟨rfl, by unfold cg_bits; simp [*]⟩
    · refine z_iload_n (j := 0) o dX4_isBits_10 rfl ?_
      refine z_bipush (v := 16) o dX4_isBits_11 (by decide) ?_
      refine z_icmpeq (tgt := 22) o dX4_isBits_13 (by decide) (fun c3 => ?_) (fun c3 => ?_)
      · refine z_iconst (v := 1) o dX4_isBits_22 (by decide) ?_
        refine z_goto (tgt := 27) o dX4_isBits_23 (by decide) ?_
        exact kret _ _ _ _ dX4_isBits_27 ⟨rfl, by unfold cg_bits; simp [*]⟩
      · refine z_iload_n (j := 0) o dX4_isBits_16 rfl ?_
        refine z_bipush (v := 32) o dX4_isBits_17 (by decide) ?_
        refine z_icmpne (tgt := 26) o dX4_isBits_19 (by decide) (fun c4 => ?_) (fun c4 => ?_)
        · refine z_iconst (v := 0) o dX4_isBits_26 (by decide) ?_
          exact kret _ _ _ _ dX4_isBits_27 ⟨rfl, by unfold cg_bits; simp [*]⟩
        · refine z_iconst (v := 1) o dX4_isBits_22 (by decide) ?_
          refine z_goto (tgt := 27) o dX4_isBits_23 (by decide) ?_
          exact kret _ _ _ _ dX4_isBits_27 ⟨rfl, by unfold cg_bits; simp [*]⟩

set_option maxHeartbeats 4000000 in
set_option maxRecDepth 100000 in
theorem c_X4_hasPart {B : zB} (hB : znn B = 95) (M : zM) (N : zN) (p : Nat) (i n : Int32) (hp : zsh p = 3) : zCi B (zg B M N) yX4_hasPart cX4_hasPart 3 (some .boolean) 0 [zref B p, .int i, .int n] (fun r g' => g' = zg B M N ∧ r = cg_part (M p 1) i n) := by
  refine zCi_of (by decide +kernel) (Nat.le_of_ble_eq_true rfl) .boolean rfl (fun r _ h => zin_z r (by rw [h.2]; exact cg_part_01 _ _ _)) ?_
  intro X o kret
  show zW X B (zg B M N) 0 [(0, zref B p), (1, .int i), (2, .int n)] []
  refine z_iload_n (j := 1) o dX4_hasPart_0 rfl ?_
  refine z_iflt (tgt := 30) o dX4_hasPart_1 (by decide) (fun c1 => ?_) (fun c1 => ?_)
  · refine z_iconst (v := 0) o dX4_hasPart_30 (by decide) ?_
    exact kret _ _ _ _ dX4_hasPart_31 ⟨rfl, by unfold cg_part; simp [*]⟩
  · refine z_iload_n (j := 2) o dX4_hasPart_4 rfl ?_
    refine z_iflt (tgt := 30) o dX4_hasPart_5 (by decide) (fun c2 => ?_) (fun c2 => ?_)
    · refine z_iconst (v := 0) o dX4_hasPart_30 (by decide) ?_
      exact kret _ _ _ _ dX4_hasPart_31 ⟨rfl, by unfold cg_part; simp [*]⟩
    · refine z_iload_n (j := 2) o dX4_hasPart_8 rfl ?_
      refine z_aload_n (j := 0) o dX4_hasPart_9 rfl ?_
      refine zo_get (i := p) o hB dX4_hasPart_10 zf_X4_17 hp (by decide) (rfl) ?_
      refine z_icmpgt (tgt := 30) o dX4_hasPart_13 (by decide) (fun c3 => ?_) (fun c3 => ?_)
      · refine z_iconst (v := 0) o dX4_hasPart_30 (by decide) ?_
        exact kret _ _ _ _ dX4_hasPart_31 ⟨rfl, by unfold cg_part; simp [*]⟩
      · refine z_iload_n (j := 1) o dX4_hasPart_16 rfl ?_
        refine z_aload_n (j := 0) o dX4_hasPart_17 rfl ?_
        refine zo_get (i := p) o hB dX4_hasPart_18 zf_X4_17 hp (by decide) (rfl) ?_
        refine z_iload_n (j := 2) o dX4_hasPart_21 rfl ?_
        refine z_isub o dX4_hasPart_22 ?_
        refine z_icmpgt (tgt := 30) o dX4_hasPart_23 (by decide) (fun c4 => ?_) (fun c4 => ?_)
        · refine z_iconst (v := 0) o dX4_hasPart_30 (by decide) ?_
          exact kret _ _ _ _ dX4_hasPart_31 ⟨rfl, by unfold cg_part; simp [*]⟩
        · refine z_iconst (v := 1) o dX4_hasPart_26 (by decide) ?_
          refine z_goto (tgt := 31) o dX4_hasPart_27 (by decide) ?_
          exact kret _ _ _ _ dX4_hasPart_31 ⟨rfl, by unfold cg_part; simp [*]⟩

set_option maxHeartbeats 4000000 in
set_option maxRecDepth 100000 in
theorem c_X4_lowestBits {B : zB} (hB : znn B = 95) (M : zM) (N : zN) (p : Nat) (v : Int32) (hp : zsh p = 3) : zCi B (zg B M N) yX4_lowestBits cX4_lowestBits 2 (some .int) 0 [zref B p, .int v] (fun r g' => g' = zg B M N ∧ r = sp_low (M p 2) v) := by
  refine zCi_of (by decide +kernel) (Nat.le_of_ble_eq_true rfl) .int rfl (fun _ _ _ => rfl) ?_
  intro X o kret
  show zW X B (zg B M N) 0 [(0, zref B p), (1, .int v)] []
  refine z_aload_n (j := 0) o dX4_lowestBits_0 rfl ?_
  refine zo_get (i := p) o hB dX4_lowestBits_1 zf_X4_13 hp (by decide) (rfl) ?_
  refine z_bipush (v := 8) o dX4_lowestBits_4 (by decide) ?_
  refine z_icmpne (tgt := 12) o dX4_lowestBits_6 (by decide) (fun c1 => ?_) (fun c1 => ?_)
  · refine z_aload_n (j := 0) o dX4_lowestBits_12 rfl ?_
    refine zo_get (i := p) o hB dX4_lowestBits_13 zf_X4_13 hp (by decide) (rfl) ?_
    refine z_bipush (v := 16) o dX4_lowestBits_16 (by decide) ?_
    refine z_icmpne (tgt := 26) o dX4_lowestBits_18 (by decide) (fun c2 => ?_) (fun c2 => ?_)
    · refine z_iload_n (j := 1) o dX4_lowestBits_26 rfl ?_
      exact kret _ _ _ _ dX4_lowestBits_27 ⟨rfl, by unfold sp_low; simp [*]⟩
    · refine z_iload_n (j := 1) o dX4_lowestBits_21 rfl ?_
      refine z_i2s o dX4_lowestBits_22 ?_
      refine z_goto (tgt := 27) o dX4_lowestBits_23 (by decide) ?_
      exact kret _ _ _ _ dX4_lowestBits_27 ⟨rfl, by unfold sp_low; simp [*]⟩
  · refine z_iload_n (j := 1) o dX4_lowestBits_9 rfl ?_
    refine z_i2b o dX4_lowestBits_10 ?_
    exact kret _ _ _ _ dX4_lowestBits_11 ⟨rfl, by unfold sp_low; simp [*]⟩

set_option maxHeartbeats 4000000 in
set_option maxRecDepth 100000 in
theorem c_X4_begin {B : zB} (hB : znn B = 95) (M : zM) (N : zN) (p : Nat) (b n : Int32) (hp : zsh p = 3) : zCv B (zg B M N) yX4_begin cX4_begin 4 none 0 [zref B p, .int b, .int n] (fun g' => ∃ F : Nat → Int32, g' = zg B (va_up (zu (zu M p 2 b) p 1 n) (p + 1) F) N ∧ ∀ k, k < 24 → F k = 0) := by
  refine zCv_of (by decide +kernel) (Nat.le_of_ble_eq_true rfl) ?_
  intro X o kret
  show zW X B (zg B M N) 0 [(0, zref B p), (1, .int b), (2, .int n)] []
  refine z_aload_n (j := 0) o dX4_begin_0 rfl ?_
  refine z_iload_n (j := 1) o dX4_begin_1 rfl ?_
  refine zo_put (i := p) o hB dX4_begin_2 zp_X4_13 hp (by decide) (by decide) (Nat.le_of_ble_eq_true rfl) ?_
  refine z_aload_n (j := 0) o dX4_begin_5 rfl ?_
  refine z_iload_n (j := 2) o dX4_begin_6 rfl ?_
  refine zo_put (i := p) o hB dX4_begin_7 zp_X4_17 hp (by decide) (by decide) (Nat.le_of_ble_eq_true rfl) ?_
  refine z_iconst (v := 0) o dX4_begin_10 (by decide) ?_
  refine z_istore_n (i := 3) (lv2 := [(3, .int 0), (0, zref B p), (1, .int b), (2, .int n)]) o dX4_begin_11 rfl (by decide) rfl ?_
  have LOOP : ∀ nq kq : Nat, kq + nq = 24 → ∀ F : Nat → Int32, (∀ j, j < kq → F j = 0) → zW X B (zg B (va_up (zu (zu M p 2 b) p 1 n) (p + 1) F) N) 12 [(3, .int (nI kq)), (0, zref B p), (1, .int b), (2, .int n)] [] := by
    intro nq
    induction nq with
    | zero =>
      intro kq hkq F hz
      obtain rfl : kq = 24 := by omega
      refine z_iload_n (j := 0) o dX4_begin_12 rfl ?_
      refine z_bipush (v := 24) o dX4_begin_13 (by decide) ?_
      refine z_icmpge (tgt := 31) o dX4_begin_15 (by decide) (fun c1 => ?_) (fun c1 => ?_)
      · exact kret _ _ _ dX4_begin_31 ⟨F, rfl, hz⟩
      · exact absurd c1 (nI_nlt (a := 24) (b := 24) (by omega) (by omega))
    | succ nq ih =>
      intro kq hkq F hz
      have hlt : kq < 24 := by omega
      refine z_iload_n (j := 0) o dX4_begin_12 rfl ?_
      refine z_bipush (v := 24) o dX4_begin_13 (by decide) ?_
      refine z_icmpge (tgt := 31) o dX4_begin_15 (by decide) (fun c2 => ?_) (fun c2 => ?_)
      · exact absurd (nI_lt (a := kq) (b := 24) (by omega) (by omega)) c2
      · refine z_aload_n (j := 1) o dX4_begin_18 rfl ?_
        refine zo_get (i := p) o hB dX4_begin_19 zf_X4_9 hp (by decide) (rfl) ?_
        refine z_iload_n (j := 0) o dX4_begin_22 rfl ?_
        refine z_iconst (v := 0) o dX4_begin_23 (by decide) ?_
        refine zo_iast (i := p + 1) (j := kq) o hB dX4_begin_24 (zh_S hp) (by rw [(zh_Sn hp)]; omega) (by rw [(zh_Sn hp)]; decide) ?_
        rw [show zu (va_up (zu (zu M p 2 b) p 1 n) (p + 1) F) (p + 1) kq 0 = va_up (zu (zu M p 2 b) p 1 n) (p + 1) (upd F kq 0) from zu_vb]
        refine z_iinc (j := 0) (v := nI (kq + 1)) (lv2 := [(3, .int (nI (kq + 1))), (0, zref B p), (1, .int b), (2, .int n)]) o dX4_begin_25 rfl (zn_ofInt _) (by decide) rfl ?_
        refine z_goto (tgt := 12) o dX4_begin_28 (by decide) ?_
        refine zo_lv [0, 1, 2, 3] rfl ?_
        exact ih (kq + 1) (by omega) _ (fun j hj => by
          by_cases q : j = kq
          · subst q; exact upd_self
          · rw [upd_ne q]; exact hz j (by omega))
  refine zo_lv [0, 1, 2, 3] rfl ?_
  have e0 : zu (zu M p 2 b) p 1 n = va_up (zu (zu M p 2 b) p 1 n) (p + 1) (M (p + 1)) := by
    rw [show M (p + 1) = (zu (zu M p 2 b) p 1 n) (p + 1) from by rw [zu_ne (by omega), zu_ne (by omega)], va_up_id]
  rw [e0]
  exact LOOP 24 0 (by omega) _ (fun j hj => absurd hj (Nat.not_lt_zero _))

theorem so_01 {C ρ : Nat → Int32} {s i k : Nat} {x y : Int32} : (if x = y then sp_so C ρ s i k else 0) = 0 ∨ (if x = y then sp_so C ρ s i k else 0) = 1 := by
  by_cases h : x = y
  · rw [if_pos h]; exact sp_so_01 C ρ s i k
  · rw [if_neg h]; exact Or.inl rfl
set_option maxHeartbeats 4000000 in
set_option maxRecDepth 100000 in
theorem c_X4_tells {B : zB} (hB : znn B = 95) (M : zM) (N : zN) (p f s i : Nat) (C ρ : Nat → Int32) (hp : zsh p = 3) (hf : zsh f = 0) (hi : i < 4) (hok : zOkR ρ) (hS : ∀ k, k < 24 → M (p + 1) k = C (24 * s + k)) (hF : zFn f M ρ i) : zCi B (zg B M N) yX4_tells cX4_tells 4 (some .boolean) 0 [zref B p, zref B f] (fun r g' => g' = zg B M N ∧ r = (if M p 1 = ρ (6 + 13 * i + 3) then sp_so C ρ s i (sp_np ρ i) else 0)) := by
  refine zCi_of (by decide +kernel) (Nat.le_of_ble_eq_true rfl) .boolean rfl (fun r _ h => zin_z r (by rw [h.2]; exact so_01)) ?_
  intro X o kret
  show zW X B (zg B M N) 0 [(0, zref B p), (1, zref B f)] []
  obtain ⟨hnp, hnp8⟩ := ok_np2 hok hi
  have h8 : M f 1 = nI (sp_np ρ i) := hF.1.trans hnp
  refine z_aload_n (j := 0) o dX4_tells_0 rfl ?_
  refine zo_get (i := p) o hB dX4_tells_1 zf_X4_17 hp (by decide) (rfl) ?_
  refine z_aload_n (j := 1) o dX4_tells_4 rfl ?_
  refine zo_get (i := f) o hB dX4_tells_5 zf_X4_20 hf (by decide) (rfl) ?_
  refine zo_rw (y := nI (sp_np ρ i)) (h8) ?_
  refine z_icmpne (tgt := 15) o dX4_tells_8 (by decide) (fun c1 => ?_) (fun c1 => ?_)
  · refine z_iconst (v := 0) o dX4_tells_15 (by decide) ?_
    refine z_istore_n (i := 2) (lv2 := [(2, .int 0), (0, zref B p), (1, zref B f)]) o dX4_tells_16 rfl (by decide) rfl ?_
    refine z_iconst (v := 0) o dX4_tells_17 (by decide) ?_
    refine z_istore_n (i := 3) (lv2 := [(3, .int 0), (2, .int 0), (0, zref B p), (1, zref B f)]) o dX4_tells_18 rfl (by decide) rfl ?_
    refine z_iload_n (j := 1) o dX4_tells_19 rfl ?_
    refine z_ifeq (tgt := 58) o dX4_tells_20 (by decide) (fun c2 => ?_) (fun c2 => ?_)
    · refine z_iload_n (j := 1) o dX4_tells_58 rfl ?_
      exact kret _ _ _ _ dX4_tells_59 ⟨rfl, by rw [if_neg (fun q => c1 (q.trans hnp))]⟩
    · exact absurd c2 (by decide)
  · refine z_iconst (v := 1) o dX4_tells_11 (by decide) ?_
    refine z_goto (tgt := 16) o dX4_tells_12 (by decide) ?_
    refine z_istore_n (i := 2) (lv2 := [(2, .int 1), (0, zref B p), (1, zref B f)]) o dX4_tells_16 rfl (by decide) rfl ?_
    refine z_iconst (v := 0) o dX4_tells_17 (by decide) ?_
    refine z_istore_n (i := 3) (lv2 := [(3, .int 0), (2, .int 1), (0, zref B p), (1, zref B f)]) o dX4_tells_18 rfl (by decide) rfl ?_
    have heq : M p 1 = ρ (6 + 13 * i + 3) := c1.trans hnp.symm
    have hR : (if M p 1 = ρ (6 + 13 * i + 3) then sp_so C ρ s i (sp_np ρ i) else 0) = sp_so C ρ s i (sp_np ρ i) := if_pos heq
    have LOOP : ∀ nq kq : Nat, kq + nq = sp_np ρ i → ∀ sm : Int32, sm = sp_so C ρ s i kq → zW X B (zg B M N) 19 [(3, .int (nI kq)), (2, .int sm), (0, zref B p), (1, zref B f)] [] := by
      intro nq
      induction nq with
      | zero =>
        intro kq hkq sm hsm
        have hz : kq = sp_np ρ i := by omega
        refine z_iload_n (j := 1) o dX4_tells_19 rfl ?_
        refine z_ifeq (tgt := 58) o dX4_tells_20 (by decide) (fun c3 => ?_) (fun c3 => ?_)
        · refine z_iload_n (j := 1) o dX4_tells_58 rfl ?_
          exact kret _ _ _ _ dX4_tells_59 ⟨rfl, by rw [hR, ← hz]; exact hsm⟩
        · refine z_iload_n (j := 0) o dX4_tells_23 rfl ?_
          refine z_aload_n (j := 3) o dX4_tells_24 rfl ?_
          refine zo_get (i := f) o hB dX4_tells_25 zf_X4_20 hf (by decide) (rfl) ?_
          refine zo_rw (y := nI (sp_np ρ i)) (h8) ?_
          refine z_icmpge (tgt := 58) o dX4_tells_28 (by decide) (fun c4 => ?_) (fun c4 => ?_)
          · refine z_iload_n (j := 1) o dX4_tells_58 rfl ?_
            exact kret _ _ _ _ dX4_tells_59 ⟨rfl, by rw [hR, ← hz]; exact hsm⟩
          · exact absurd c4 (nI_nlt (a := kq) (b := sp_np ρ i) (by omega) (by omega))
      | succ nq ih =>
        intro kq hkq sm hsm
        have hlt : kq < sp_np ρ i := by omega
        refine z_iload_n (j := 1) o dX4_tells_19 rfl ?_
        refine z_ifeq (tgt := 58) o dX4_tells_20 (by decide) (fun c5 => ?_) (fun c5 => ?_)
        · have h0 : sp_so C ρ s i kq = 0 := hsm.symm.trans c5
          refine z_iload_n (j := 1) o dX4_tells_58 rfl ?_
          exact kret _ _ _ _ dX4_tells_59 ⟨rfl, by rw [hR, hsm, h0, show sp_np ρ i = kq + (sp_np ρ i - kq) by omega, sp_so_0 h0]⟩
        · have h1 : ¬ sp_so C ρ s i kq = 0 := fun q => c5 (hsm.trans q)
          refine z_iload_n (j := 0) o dX4_tells_23 rfl ?_
          refine z_aload_n (j := 3) o dX4_tells_24 rfl ?_
          refine zo_get (i := f) o hB dX4_tells_25 zf_X4_20 hf (by decide) (rfl) ?_
          refine zo_rw (y := nI (sp_np ρ i)) (h8) ?_
          refine z_icmpge (tgt := 58) o dX4_tells_28 (by decide) (fun c6 => ?_) (fun c6 => ?_)
          · exact absurd (nI_lt (a := kq) (b := sp_np ρ i) (by omega) (by omega)) c6
          · refine z_aload_n (j := 2) o dX4_tells_31 rfl ?_
            refine zo_get (i := p) o hB dX4_tells_32 zf_X4_9 hp (by decide) (rfl) ?_
            refine z_iload_n (j := 0) o dX4_tells_35 rfl ?_
            refine zo_iald (i := p + 1) (j := kq) o hB dX4_tells_36 (zh_S hp) (by rw [(zh_Sn hp)]; omega) (by rw [(zh_Sn hp)]; decide) ?_
            refine zo_rw (y := C (24 * s + kq)) (hS kq (by omega)) ?_
            refine z_aload_n (j := 3) o dX4_tells_37 rfl ?_
            refine zo_get (i := f) o hB dX4_tells_38 zf_X4_25 hf (by decide) (rfl) ?_
            refine z_iload_n (j := 0) o dX4_tells_41 rfl ?_
            refine zo_iald (i := f + 1) (j := kq) o hB dX4_tells_42 (zh_F hf) (by rw [(zh_Fn hf)]; omega) (by rw [(zh_Fn hf)]; decide) ?_
            refine zo_rw (y := ρ (6 + 13 * i + (5 + kq))) (hF.2.2.2.2.2 kq (by omega)) ?_
            refine z_icmpne (tgt := 50) o dX4_tells_43 (by decide) (fun c7 => ?_) (fun c7 => ?_)
            · refine z_iconst (v := 0) o dX4_tells_50 (by decide) ?_
              refine z_istore_n (i := 2) (lv2 := [(2, .int 0), (3, .int (nI kq)), (0, zref B p), (1, zref B f)]) o dX4_tells_51 rfl (by decide) rfl ?_
              refine z_iinc (j := 1) (v := nI (kq + 1)) (lv2 := [(3, .int (nI (kq + 1))), (2, .int 0), (0, zref B p), (1, zref B f)]) o dX4_tells_52 rfl (zn_ofInt _) (by decide) rfl ?_
              refine z_goto (tgt := 19) o dX4_tells_55 (by decide) ?_
              refine zo_lv [0, 1, 2, 3] rfl ?_
              exact ih (kq + 1) (by omega) _ (by
                show _ = (if sp_so C ρ s i kq = 0 then 0 else if C (24 * s + kq) = ρ (6 + 13 * i + (5 + kq)) then 1 else 0)
                rw [if_neg h1, if_neg c7])
            · refine z_iconst (v := 1) o dX4_tells_46 (by decide) ?_
              refine z_goto (tgt := 51) o dX4_tells_47 (by decide) ?_
              refine z_istore_n (i := 2) (lv2 := [(2, .int 1), (3, .int (nI kq)), (0, zref B p), (1, zref B f)]) o dX4_tells_51 rfl (by decide) rfl ?_
              refine z_iinc (j := 1) (v := nI (kq + 1)) (lv2 := [(3, .int (nI (kq + 1))), (2, .int 1), (0, zref B p), (1, zref B f)]) o dX4_tells_52 rfl (zn_ofInt _) (by decide) rfl ?_
              refine z_goto (tgt := 19) o dX4_tells_55 (by decide) ?_
              refine zo_lv [0, 1, 2, 3] rfl ?_
              exact ih (kq + 1) (by omega) _ (by
                show _ = (if sp_so C ρ s i kq = 0 then 0 else if C (24 * s + kq) = ρ (6 + 13 * i + (5 + kq)) then 1 else 0)
                rw [if_neg h1, if_pos c7])
    refine zo_lv [0, 1, 2, 3] rfl ?_
    exact LOOP (sp_np ρ i) 0 (by omega) 1 rfl

def nz_m (x : Int32) : Int32 := (x ^^^ (-1)) &&& (x - 1)
def nz_s (t sh inc : Int32) (p : Int32 × Int32) : Int32 × Int32 := if t < p.2 then (p.1 + inc, ziushr p.2 sh) else p
def nz_e (p : Int32 × Int32) : Int32 := p.1 + ziushr p.2 1
def nz32 (x : Int32) : Int32 := if 0 < nz_m x then nz_e (nz_s 4 2 2 (nz_s 16 4 4 (nz_s 256 8 8 (nz_s 65536 16 16 (1, nz_m x))))) else nz_m x &&& 32
theorem nz_t {t sh inc a i : Int32} (h : t < i) : nz_s t sh inc (a, i) = (a + inc, ziushr i sh) := if_pos h
theorem nz_f {t sh inc a i : Int32} (h : ¬ t < i) : nz_s t sh inc (a, i) = (a, i) := if_neg h
def nz64 (x : Int64) : Int32 := if x.toInt32 = 0 then 32 + nz32 (zlushr x 32).toInt32 else nz32 x.toInt32
set_option maxHeartbeats 4000000 in
set_option maxRecDepth 100000 in
theorem c_J6_nz {B : zB} (hB : znn B = 95) (M : zM) (N : zN) (x : Int32) : zCi B (zg B M N) yJ6_numberOfTrailingZeros_0f7a4 cJ6_numberOfTrailingZeros_0f7a4 2 (some .int) 0 [.int x] (fun r g' => g' = zg B M N ∧ r = nz32 x) := by
  refine zCi_of (by decide +kernel) (Nat.le_of_ble_eq_true rfl) .int rfl (fun _ _ _ => rfl) ?_
  intro X o kret
  show zW X B (zg B M N) 0 [(0, .int x)] []
  refine z_iload_n (j := 0) o dJ6_numberOfTrailingZeros_0f7a4_0 rfl ?_
  refine z_iconst (v := (-1)) o dJ6_numberOfTrailingZeros_0f7a4_1 (by decide) ?_
  refine z_ixor o dJ6_numberOfTrailingZeros_0f7a4_2 ?_
  refine z_iload_n (j := 0) o dJ6_numberOfTrailingZeros_0f7a4_3 rfl ?_
  refine z_iconst (v := 1) o dJ6_numberOfTrailingZeros_0f7a4_4 (by decide) ?_
  refine z_isub o dJ6_numberOfTrailingZeros_0f7a4_5 ?_
  refine z_iand o dJ6_numberOfTrailingZeros_0f7a4_6 ?_
  refine zo_rw (y := nz_m x) rfl ?_
  refine z_istore_n (i := 0) (lv2 := [(0, .int (nz_m x))]) o dJ6_numberOfTrailingZeros_0f7a4_7 rfl (by decide) rfl ?_
  refine z_iload_n (j := 0) o dJ6_numberOfTrailingZeros_0f7a4_8 rfl ?_
  refine z_ifgt (tgt := 17) o dJ6_numberOfTrailingZeros_0f7a4_9 (by decide) (fun c1 => ?_) (fun c1 => ?_)
  · refine z_iconst (v := 1) o dJ6_numberOfTrailingZeros_0f7a4_17 (by decide) ?_
    refine z_istore_n (i := 1) (lv2 := [(1, .int 1), (0, .int (nz_m x))]) o dJ6_numberOfTrailingZeros_0f7a4_18 rfl (by decide) rfl ?_
    refine z_iload_n (j := 1) o dJ6_numberOfTrailingZeros_0f7a4_19 rfl ?_
    refine z_ldcw (v := 65536) o dJ6_numberOfTrailingZeros_0f7a4_20 zk_J6_264 ?_
    refine z_icmple (tgt := 34) o dJ6_numberOfTrailingZeros_0f7a4_23 (by decide) (fun c2 => ?_) (fun c2 => ?_)
    · refine z_iload_n (j := 1) o dJ6_numberOfTrailingZeros_0f7a4_34 rfl ?_
      refine z_sipush (v := 256) o dJ6_numberOfTrailingZeros_0f7a4_35 (by decide) ?_
      refine z_icmple (tgt := 49) o dJ6_numberOfTrailingZeros_0f7a4_38 (by decide) (fun c3 => ?_) (fun c3 => ?_)
      · refine z_iload_n (j := 1) o dJ6_numberOfTrailingZeros_0f7a4_49 rfl ?_
        refine z_bipush (v := 16) o dJ6_numberOfTrailingZeros_0f7a4_50 (by decide) ?_
        refine z_icmple (tgt := 62) o dJ6_numberOfTrailingZeros_0f7a4_52 (by decide) (fun c4 => ?_) (fun c4 => ?_)
        · refine z_iload_n (j := 1) o dJ6_numberOfTrailingZeros_0f7a4_62 rfl ?_
          refine z_iconst (v := 4) o dJ6_numberOfTrailingZeros_0f7a4_63 (by decide) ?_
          refine z_icmple (tgt := 74) o dJ6_numberOfTrailingZeros_0f7a4_64 (by decide) (fun c5 => ?_) (fun c5 => ?_)
          · refine z_iload_n (j := 0) o dJ6_numberOfTrailingZeros_0f7a4_74 rfl ?_
            refine z_iload_n (j := 1) o dJ6_numberOfTrailingZeros_0f7a4_75 rfl ?_
            refine z_iconst (v := 1) o dJ6_numberOfTrailingZeros_0f7a4_76 (by decide) ?_
            refine z_iushr o dJ6_numberOfTrailingZeros_0f7a4_77 ?_
            refine z_iadd o dJ6_numberOfTrailingZeros_0f7a4_78 ?_
            exact kret _ _ _ _ dJ6_numberOfTrailingZeros_0f7a4_79 ⟨rfl, by unfold nz32; rw [if_pos c1, nz_f c2, nz_f c3, nz_f c4, nz_f c5]; rfl⟩
          · refine z_iinc (j := 0) (v := 3) (lv2 := [(1, .int 3), (0, .int (nz_m x))]) o dJ6_numberOfTrailingZeros_0f7a4_67 rfl (by decide) (by decide) rfl ?_
            refine z_iload_n (j := 1) o dJ6_numberOfTrailingZeros_0f7a4_70 rfl ?_
            refine z_iconst (v := 2) o dJ6_numberOfTrailingZeros_0f7a4_71 (by decide) ?_
            refine z_iushr o dJ6_numberOfTrailingZeros_0f7a4_72 ?_
            refine z_istore_n (i := 0) (lv2 := [(0, .int (ziushr (nz_m x) 2)), (1, .int 3)]) o dJ6_numberOfTrailingZeros_0f7a4_73 rfl (by decide) rfl ?_
            refine z_iload_n (j := 1) o dJ6_numberOfTrailingZeros_0f7a4_74 rfl ?_
            refine z_iload_n (j := 0) o dJ6_numberOfTrailingZeros_0f7a4_75 rfl ?_
            refine z_iconst (v := 1) o dJ6_numberOfTrailingZeros_0f7a4_76 (by decide) ?_
            refine z_iushr o dJ6_numberOfTrailingZeros_0f7a4_77 ?_
            refine z_iadd o dJ6_numberOfTrailingZeros_0f7a4_78 ?_
            exact kret _ _ _ _ dJ6_numberOfTrailingZeros_0f7a4_79 ⟨rfl, by unfold nz32; rw [if_pos c1, nz_f c2, nz_f c3, nz_f c4, nz_t c5]; rfl⟩
        · refine z_iinc (j := 0) (v := 5) (lv2 := [(1, .int 5), (0, .int (nz_m x))]) o dJ6_numberOfTrailingZeros_0f7a4_55 rfl (by decide) (by decide) rfl ?_
          refine z_iload_n (j := 1) o dJ6_numberOfTrailingZeros_0f7a4_58 rfl ?_
          refine z_iconst (v := 4) o dJ6_numberOfTrailingZeros_0f7a4_59 (by decide) ?_
          refine z_iushr o dJ6_numberOfTrailingZeros_0f7a4_60 ?_
          refine z_istore_n (i := 0) (lv2 := [(0, .int (ziushr (nz_m x) 4)), (1, .int 5)]) o dJ6_numberOfTrailingZeros_0f7a4_61 rfl (by decide) rfl ?_
          refine z_iload_n (j := 0) o dJ6_numberOfTrailingZeros_0f7a4_62 rfl ?_
          refine z_iconst (v := 4) o dJ6_numberOfTrailingZeros_0f7a4_63 (by decide) ?_
          refine z_icmple (tgt := 74) o dJ6_numberOfTrailingZeros_0f7a4_64 (by decide) (fun c6 => ?_) (fun c6 => ?_)
          · refine z_iload_n (j := 1) o dJ6_numberOfTrailingZeros_0f7a4_74 rfl ?_
            refine z_iload_n (j := 0) o dJ6_numberOfTrailingZeros_0f7a4_75 rfl ?_
            refine z_iconst (v := 1) o dJ6_numberOfTrailingZeros_0f7a4_76 (by decide) ?_
            refine z_iushr o dJ6_numberOfTrailingZeros_0f7a4_77 ?_
            refine z_iadd o dJ6_numberOfTrailingZeros_0f7a4_78 ?_
            exact kret _ _ _ _ dJ6_numberOfTrailingZeros_0f7a4_79 ⟨rfl, by unfold nz32; rw [if_pos c1, nz_f c2, nz_f c3, nz_t c4, nz_f c6]; rfl⟩
          · refine z_iinc (j := 1) (v := 7) (lv2 := [(1, .int 7), (0, .int (ziushr (nz_m x) 4))]) o dJ6_numberOfTrailingZeros_0f7a4_67 rfl (by decide) (by decide) rfl ?_
            refine z_iload_n (j := 1) o dJ6_numberOfTrailingZeros_0f7a4_70 rfl ?_
            refine z_iconst (v := 2) o dJ6_numberOfTrailingZeros_0f7a4_71 (by decide) ?_
            refine z_iushr o dJ6_numberOfTrailingZeros_0f7a4_72 ?_
            refine z_istore_n (i := 0) (lv2 := [(0, .int (ziushr (ziushr (nz_m x) 4) 2)), (1, .int 7)]) o dJ6_numberOfTrailingZeros_0f7a4_73 rfl (by decide) rfl ?_
            refine z_iload_n (j := 1) o dJ6_numberOfTrailingZeros_0f7a4_74 rfl ?_
            refine z_iload_n (j := 0) o dJ6_numberOfTrailingZeros_0f7a4_75 rfl ?_
            refine z_iconst (v := 1) o dJ6_numberOfTrailingZeros_0f7a4_76 (by decide) ?_
            refine z_iushr o dJ6_numberOfTrailingZeros_0f7a4_77 ?_
            refine z_iadd o dJ6_numberOfTrailingZeros_0f7a4_78 ?_
            exact kret _ _ _ _ dJ6_numberOfTrailingZeros_0f7a4_79 ⟨rfl, by unfold nz32; rw [if_pos c1, nz_f c2, nz_f c3, nz_t c4, nz_t c6]; rfl⟩
      · refine z_iinc (j := 0) (v := 9) (lv2 := [(1, .int 9), (0, .int (nz_m x))]) o dJ6_numberOfTrailingZeros_0f7a4_41 rfl (by decide) (by decide) rfl ?_
        refine z_iload_n (j := 1) o dJ6_numberOfTrailingZeros_0f7a4_44 rfl ?_
        refine z_bipush (v := 8) o dJ6_numberOfTrailingZeros_0f7a4_45 (by decide) ?_
        refine z_iushr o dJ6_numberOfTrailingZeros_0f7a4_47 ?_
        refine z_istore_n (i := 0) (lv2 := [(0, .int (ziushr (nz_m x) 8)), (1, .int 9)]) o dJ6_numberOfTrailingZeros_0f7a4_48 rfl (by decide) rfl ?_
        refine z_iload_n (j := 0) o dJ6_numberOfTrailingZeros_0f7a4_49 rfl ?_
        refine z_bipush (v := 16) o dJ6_numberOfTrailingZeros_0f7a4_50 (by decide) ?_
        refine z_icmple (tgt := 62) o dJ6_numberOfTrailingZeros_0f7a4_52 (by decide) (fun c7 => ?_) (fun c7 => ?_)
        · refine z_iload_n (j := 0) o dJ6_numberOfTrailingZeros_0f7a4_62 rfl ?_
          refine z_iconst (v := 4) o dJ6_numberOfTrailingZeros_0f7a4_63 (by decide) ?_
          refine z_icmple (tgt := 74) o dJ6_numberOfTrailingZeros_0f7a4_64 (by decide) (fun c8 => ?_) (fun c8 => ?_)
          · refine z_iload_n (j := 1) o dJ6_numberOfTrailingZeros_0f7a4_74 rfl ?_
            refine z_iload_n (j := 0) o dJ6_numberOfTrailingZeros_0f7a4_75 rfl ?_
            refine z_iconst (v := 1) o dJ6_numberOfTrailingZeros_0f7a4_76 (by decide) ?_
            refine z_iushr o dJ6_numberOfTrailingZeros_0f7a4_77 ?_
            refine z_iadd o dJ6_numberOfTrailingZeros_0f7a4_78 ?_
            exact kret _ _ _ _ dJ6_numberOfTrailingZeros_0f7a4_79 ⟨rfl, by unfold nz32; rw [if_pos c1, nz_f c2, nz_t c3, nz_f c7, nz_f c8]; rfl⟩
          · refine z_iinc (j := 1) (v := 11) (lv2 := [(1, .int 11), (0, .int (ziushr (nz_m x) 8))]) o dJ6_numberOfTrailingZeros_0f7a4_67 rfl (by decide) (by decide) rfl ?_
            refine z_iload_n (j := 1) o dJ6_numberOfTrailingZeros_0f7a4_70 rfl ?_
            refine z_iconst (v := 2) o dJ6_numberOfTrailingZeros_0f7a4_71 (by decide) ?_
            refine z_iushr o dJ6_numberOfTrailingZeros_0f7a4_72 ?_
            refine z_istore_n (i := 0) (lv2 := [(0, .int (ziushr (ziushr (nz_m x) 8) 2)), (1, .int 11)]) o dJ6_numberOfTrailingZeros_0f7a4_73 rfl (by decide) rfl ?_
            refine z_iload_n (j := 1) o dJ6_numberOfTrailingZeros_0f7a4_74 rfl ?_
            refine z_iload_n (j := 0) o dJ6_numberOfTrailingZeros_0f7a4_75 rfl ?_
            refine z_iconst (v := 1) o dJ6_numberOfTrailingZeros_0f7a4_76 (by decide) ?_
            refine z_iushr o dJ6_numberOfTrailingZeros_0f7a4_77 ?_
            refine z_iadd o dJ6_numberOfTrailingZeros_0f7a4_78 ?_
            exact kret _ _ _ _ dJ6_numberOfTrailingZeros_0f7a4_79 ⟨rfl, by unfold nz32; rw [if_pos c1, nz_f c2, nz_t c3, nz_f c7, nz_t c8]; rfl⟩
        · refine z_iinc (j := 1) (v := 13) (lv2 := [(1, .int 13), (0, .int (ziushr (nz_m x) 8))]) o dJ6_numberOfTrailingZeros_0f7a4_55 rfl (by decide) (by decide) rfl ?_
          refine z_iload_n (j := 1) o dJ6_numberOfTrailingZeros_0f7a4_58 rfl ?_
          refine z_iconst (v := 4) o dJ6_numberOfTrailingZeros_0f7a4_59 (by decide) ?_
          refine z_iushr o dJ6_numberOfTrailingZeros_0f7a4_60 ?_
          refine z_istore_n (i := 0) (lv2 := [(0, .int (ziushr (ziushr (nz_m x) 8) 4)), (1, .int 13)]) o dJ6_numberOfTrailingZeros_0f7a4_61 rfl (by decide) rfl ?_
          refine z_iload_n (j := 0) o dJ6_numberOfTrailingZeros_0f7a4_62 rfl ?_
          refine z_iconst (v := 4) o dJ6_numberOfTrailingZeros_0f7a4_63 (by decide) ?_
          refine z_icmple (tgt := 74) o dJ6_numberOfTrailingZeros_0f7a4_64 (by decide) (fun c9 => ?_) (fun c9 => ?_)
          · refine z_iload_n (j := 1) o dJ6_numberOfTrailingZeros_0f7a4_74 rfl ?_
            refine z_iload_n (j := 0) o dJ6_numberOfTrailingZeros_0f7a4_75 rfl ?_
            refine z_iconst (v := 1) o dJ6_numberOfTrailingZeros_0f7a4_76 (by decide) ?_
            refine z_iushr o dJ6_numberOfTrailingZeros_0f7a4_77 ?_
            refine z_iadd o dJ6_numberOfTrailingZeros_0f7a4_78 ?_
            exact kret _ _ _ _ dJ6_numberOfTrailingZeros_0f7a4_79 ⟨rfl, by unfold nz32; rw [if_pos c1, nz_f c2, nz_t c3, nz_t c7, nz_f c9]; rfl⟩
          · refine z_iinc (j := 1) (v := 15) (lv2 := [(1, .int 15), (0, .int (ziushr (ziushr (nz_m x) 8) 4))]) o dJ6_numberOfTrailingZeros_0f7a4_67 rfl (by decide) (by decide) rfl ?_
            refine z_iload_n (j := 1) o dJ6_numberOfTrailingZeros_0f7a4_70 rfl ?_
            refine z_iconst (v := 2) o dJ6_numberOfTrailingZeros_0f7a4_71 (by decide) ?_
            refine z_iushr o dJ6_numberOfTrailingZeros_0f7a4_72 ?_
            refine z_istore_n (i := 0) (lv2 := [(0, .int (ziushr (ziushr (ziushr (nz_m x) 8) 4) 2)), (1, .int 15)]) o dJ6_numberOfTrailingZeros_0f7a4_73 rfl (by decide) rfl ?_
            refine z_iload_n (j := 1) o dJ6_numberOfTrailingZeros_0f7a4_74 rfl ?_
            refine z_iload_n (j := 0) o dJ6_numberOfTrailingZeros_0f7a4_75 rfl ?_
            refine z_iconst (v := 1) o dJ6_numberOfTrailingZeros_0f7a4_76 (by decide) ?_
            refine z_iushr o dJ6_numberOfTrailingZeros_0f7a4_77 ?_
            refine z_iadd o dJ6_numberOfTrailingZeros_0f7a4_78 ?_
            exact kret _ _ _ _ dJ6_numberOfTrailingZeros_0f7a4_79 ⟨rfl, by unfold nz32; rw [if_pos c1, nz_f c2, nz_t c3, nz_t c7, nz_t c9]; rfl⟩
    · refine z_iinc (j := 0) (v := 17) (lv2 := [(1, .int 17), (0, .int (nz_m x))]) o dJ6_numberOfTrailingZeros_0f7a4_26 rfl (by decide) (by decide) rfl ?_
      refine z_iload_n (j := 1) o dJ6_numberOfTrailingZeros_0f7a4_29 rfl ?_
      refine z_bipush (v := 16) o dJ6_numberOfTrailingZeros_0f7a4_30 (by decide) ?_
      refine z_iushr o dJ6_numberOfTrailingZeros_0f7a4_32 ?_
      refine z_istore_n (i := 0) (lv2 := [(0, .int (ziushr (nz_m x) 16)), (1, .int 17)]) o dJ6_numberOfTrailingZeros_0f7a4_33 rfl (by decide) rfl ?_
      refine z_iload_n (j := 0) o dJ6_numberOfTrailingZeros_0f7a4_34 rfl ?_
      refine z_sipush (v := 256) o dJ6_numberOfTrailingZeros_0f7a4_35 (by decide) ?_
      refine z_icmple (tgt := 49) o dJ6_numberOfTrailingZeros_0f7a4_38 (by decide) (fun c10 => ?_) (fun c10 => ?_)
      · refine z_iload_n (j := 0) o dJ6_numberOfTrailingZeros_0f7a4_49 rfl ?_
        refine z_bipush (v := 16) o dJ6_numberOfTrailingZeros_0f7a4_50 (by decide) ?_
        refine z_icmple (tgt := 62) o dJ6_numberOfTrailingZeros_0f7a4_52 (by decide) (fun c11 => ?_) (fun c11 => ?_)
        · refine z_iload_n (j := 0) o dJ6_numberOfTrailingZeros_0f7a4_62 rfl ?_
          refine z_iconst (v := 4) o dJ6_numberOfTrailingZeros_0f7a4_63 (by decide) ?_
          refine z_icmple (tgt := 74) o dJ6_numberOfTrailingZeros_0f7a4_64 (by decide) (fun c12 => ?_) (fun c12 => ?_)
          · refine z_iload_n (j := 1) o dJ6_numberOfTrailingZeros_0f7a4_74 rfl ?_
            refine z_iload_n (j := 0) o dJ6_numberOfTrailingZeros_0f7a4_75 rfl ?_
            refine z_iconst (v := 1) o dJ6_numberOfTrailingZeros_0f7a4_76 (by decide) ?_
            refine z_iushr o dJ6_numberOfTrailingZeros_0f7a4_77 ?_
            refine z_iadd o dJ6_numberOfTrailingZeros_0f7a4_78 ?_
            exact kret _ _ _ _ dJ6_numberOfTrailingZeros_0f7a4_79 ⟨rfl, by unfold nz32; rw [if_pos c1, nz_t c2, nz_f c10, nz_f c11, nz_f c12]; rfl⟩
          · refine z_iinc (j := 1) (v := 19) (lv2 := [(1, .int 19), (0, .int (ziushr (nz_m x) 16))]) o dJ6_numberOfTrailingZeros_0f7a4_67 rfl (by decide) (by decide) rfl ?_
            refine z_iload_n (j := 1) o dJ6_numberOfTrailingZeros_0f7a4_70 rfl ?_
            refine z_iconst (v := 2) o dJ6_numberOfTrailingZeros_0f7a4_71 (by decide) ?_
            refine z_iushr o dJ6_numberOfTrailingZeros_0f7a4_72 ?_
            refine z_istore_n (i := 0) (lv2 := [(0, .int (ziushr (ziushr (nz_m x) 16) 2)), (1, .int 19)]) o dJ6_numberOfTrailingZeros_0f7a4_73 rfl (by decide) rfl ?_
            refine z_iload_n (j := 1) o dJ6_numberOfTrailingZeros_0f7a4_74 rfl ?_
            refine z_iload_n (j := 0) o dJ6_numberOfTrailingZeros_0f7a4_75 rfl ?_
            refine z_iconst (v := 1) o dJ6_numberOfTrailingZeros_0f7a4_76 (by decide) ?_
            refine z_iushr o dJ6_numberOfTrailingZeros_0f7a4_77 ?_
            refine z_iadd o dJ6_numberOfTrailingZeros_0f7a4_78 ?_
            exact kret _ _ _ _ dJ6_numberOfTrailingZeros_0f7a4_79 ⟨rfl, by unfold nz32; rw [if_pos c1, nz_t c2, nz_f c10, nz_f c11, nz_t c12]; rfl⟩
        · refine z_iinc (j := 1) (v := 21) (lv2 := [(1, .int 21), (0, .int (ziushr (nz_m x) 16))]) o dJ6_numberOfTrailingZeros_0f7a4_55 rfl (by decide) (by decide) rfl ?_
          refine z_iload_n (j := 1) o dJ6_numberOfTrailingZeros_0f7a4_58 rfl ?_
          refine z_iconst (v := 4) o dJ6_numberOfTrailingZeros_0f7a4_59 (by decide) ?_
          refine z_iushr o dJ6_numberOfTrailingZeros_0f7a4_60 ?_
          refine z_istore_n (i := 0) (lv2 := [(0, .int (ziushr (ziushr (nz_m x) 16) 4)), (1, .int 21)]) o dJ6_numberOfTrailingZeros_0f7a4_61 rfl (by decide) rfl ?_
          refine z_iload_n (j := 0) o dJ6_numberOfTrailingZeros_0f7a4_62 rfl ?_
          refine z_iconst (v := 4) o dJ6_numberOfTrailingZeros_0f7a4_63 (by decide) ?_
          refine z_icmple (tgt := 74) o dJ6_numberOfTrailingZeros_0f7a4_64 (by decide) (fun c13 => ?_) (fun c13 => ?_)
          · refine z_iload_n (j := 1) o dJ6_numberOfTrailingZeros_0f7a4_74 rfl ?_
            refine z_iload_n (j := 0) o dJ6_numberOfTrailingZeros_0f7a4_75 rfl ?_
            refine z_iconst (v := 1) o dJ6_numberOfTrailingZeros_0f7a4_76 (by decide) ?_
            refine z_iushr o dJ6_numberOfTrailingZeros_0f7a4_77 ?_
            refine z_iadd o dJ6_numberOfTrailingZeros_0f7a4_78 ?_
            exact kret _ _ _ _ dJ6_numberOfTrailingZeros_0f7a4_79 ⟨rfl, by unfold nz32; rw [if_pos c1, nz_t c2, nz_f c10, nz_t c11, nz_f c13]; rfl⟩
          · refine z_iinc (j := 1) (v := 23) (lv2 := [(1, .int 23), (0, .int (ziushr (ziushr (nz_m x) 16) 4))]) o dJ6_numberOfTrailingZeros_0f7a4_67 rfl (by decide) (by decide) rfl ?_
            refine z_iload_n (j := 1) o dJ6_numberOfTrailingZeros_0f7a4_70 rfl ?_
            refine z_iconst (v := 2) o dJ6_numberOfTrailingZeros_0f7a4_71 (by decide) ?_
            refine z_iushr o dJ6_numberOfTrailingZeros_0f7a4_72 ?_
            refine z_istore_n (i := 0) (lv2 := [(0, .int (ziushr (ziushr (ziushr (nz_m x) 16) 4) 2)), (1, .int 23)]) o dJ6_numberOfTrailingZeros_0f7a4_73 rfl (by decide) rfl ?_
            refine z_iload_n (j := 1) o dJ6_numberOfTrailingZeros_0f7a4_74 rfl ?_
            refine z_iload_n (j := 0) o dJ6_numberOfTrailingZeros_0f7a4_75 rfl ?_
            refine z_iconst (v := 1) o dJ6_numberOfTrailingZeros_0f7a4_76 (by decide) ?_
            refine z_iushr o dJ6_numberOfTrailingZeros_0f7a4_77 ?_
            refine z_iadd o dJ6_numberOfTrailingZeros_0f7a4_78 ?_
            exact kret _ _ _ _ dJ6_numberOfTrailingZeros_0f7a4_79 ⟨rfl, by unfold nz32; rw [if_pos c1, nz_t c2, nz_f c10, nz_t c11, nz_t c13]; rfl⟩
      · refine z_iinc (j := 1) (v := 25) (lv2 := [(1, .int 25), (0, .int (ziushr (nz_m x) 16))]) o dJ6_numberOfTrailingZeros_0f7a4_41 rfl (by decide) (by decide) rfl ?_
        refine z_iload_n (j := 1) o dJ6_numberOfTrailingZeros_0f7a4_44 rfl ?_
        refine z_bipush (v := 8) o dJ6_numberOfTrailingZeros_0f7a4_45 (by decide) ?_
        refine z_iushr o dJ6_numberOfTrailingZeros_0f7a4_47 ?_
        refine z_istore_n (i := 0) (lv2 := [(0, .int (ziushr (ziushr (nz_m x) 16) 8)), (1, .int 25)]) o dJ6_numberOfTrailingZeros_0f7a4_48 rfl (by decide) rfl ?_
        refine z_iload_n (j := 0) o dJ6_numberOfTrailingZeros_0f7a4_49 rfl ?_
        refine z_bipush (v := 16) o dJ6_numberOfTrailingZeros_0f7a4_50 (by decide) ?_
        refine z_icmple (tgt := 62) o dJ6_numberOfTrailingZeros_0f7a4_52 (by decide) (fun c14 => ?_) (fun c14 => ?_)
        · refine z_iload_n (j := 0) o dJ6_numberOfTrailingZeros_0f7a4_62 rfl ?_
          refine z_iconst (v := 4) o dJ6_numberOfTrailingZeros_0f7a4_63 (by decide) ?_
          refine z_icmple (tgt := 74) o dJ6_numberOfTrailingZeros_0f7a4_64 (by decide) (fun c15 => ?_) (fun c15 => ?_)
          · refine z_iload_n (j := 1) o dJ6_numberOfTrailingZeros_0f7a4_74 rfl ?_
            refine z_iload_n (j := 0) o dJ6_numberOfTrailingZeros_0f7a4_75 rfl ?_
            refine z_iconst (v := 1) o dJ6_numberOfTrailingZeros_0f7a4_76 (by decide) ?_
            refine z_iushr o dJ6_numberOfTrailingZeros_0f7a4_77 ?_
            refine z_iadd o dJ6_numberOfTrailingZeros_0f7a4_78 ?_
            exact kret _ _ _ _ dJ6_numberOfTrailingZeros_0f7a4_79 ⟨rfl, by unfold nz32; rw [if_pos c1, nz_t c2, nz_t c10, nz_f c14, nz_f c15]; rfl⟩
          · refine z_iinc (j := 1) (v := 27) (lv2 := [(1, .int 27), (0, .int (ziushr (ziushr (nz_m x) 16) 8))]) o dJ6_numberOfTrailingZeros_0f7a4_67 rfl (by decide) (by decide) rfl ?_
            refine z_iload_n (j := 1) o dJ6_numberOfTrailingZeros_0f7a4_70 rfl ?_
            refine z_iconst (v := 2) o dJ6_numberOfTrailingZeros_0f7a4_71 (by decide) ?_
            refine z_iushr o dJ6_numberOfTrailingZeros_0f7a4_72 ?_
            refine z_istore_n (i := 0) (lv2 := [(0, .int (ziushr (ziushr (ziushr (nz_m x) 16) 8) 2)), (1, .int 27)]) o dJ6_numberOfTrailingZeros_0f7a4_73 rfl (by decide) rfl ?_
            refine z_iload_n (j := 1) o dJ6_numberOfTrailingZeros_0f7a4_74 rfl ?_
            refine z_iload_n (j := 0) o dJ6_numberOfTrailingZeros_0f7a4_75 rfl ?_
            refine z_iconst (v := 1) o dJ6_numberOfTrailingZeros_0f7a4_76 (by decide) ?_
            refine z_iushr o dJ6_numberOfTrailingZeros_0f7a4_77 ?_
            refine z_iadd o dJ6_numberOfTrailingZeros_0f7a4_78 ?_
            exact kret _ _ _ _ dJ6_numberOfTrailingZeros_0f7a4_79 ⟨rfl, by unfold nz32; rw [if_pos c1, nz_t c2, nz_t c10, nz_f c14, nz_t c15]; rfl⟩
        · refine z_iinc (j := 1) (v := 29) (lv2 := [(1, .int 29), (0, .int (ziushr (ziushr (nz_m x) 16) 8))]) o dJ6_numberOfTrailingZeros_0f7a4_55 rfl (by decide) (by decide) rfl ?_
          refine z_iload_n (j := 1) o dJ6_numberOfTrailingZeros_0f7a4_58 rfl ?_
          refine z_iconst (v := 4) o dJ6_numberOfTrailingZeros_0f7a4_59 (by decide) ?_
          refine z_iushr o dJ6_numberOfTrailingZeros_0f7a4_60 ?_
          refine z_istore_n (i := 0) (lv2 := [(0, .int (ziushr (ziushr (ziushr (nz_m x) 16) 8) 4)), (1, .int 29)]) o dJ6_numberOfTrailingZeros_0f7a4_61 rfl (by decide) rfl ?_
          refine z_iload_n (j := 0) o dJ6_numberOfTrailingZeros_0f7a4_62 rfl ?_
          refine z_iconst (v := 4) o dJ6_numberOfTrailingZeros_0f7a4_63 (by decide) ?_
          refine z_icmple (tgt := 74) o dJ6_numberOfTrailingZeros_0f7a4_64 (by decide) (fun c16 => ?_) (fun c16 => ?_)
          · refine z_iload_n (j := 1) o dJ6_numberOfTrailingZeros_0f7a4_74 rfl ?_
            refine z_iload_n (j := 0) o dJ6_numberOfTrailingZeros_0f7a4_75 rfl ?_
            refine z_iconst (v := 1) o dJ6_numberOfTrailingZeros_0f7a4_76 (by decide) ?_
            refine z_iushr o dJ6_numberOfTrailingZeros_0f7a4_77 ?_
            refine z_iadd o dJ6_numberOfTrailingZeros_0f7a4_78 ?_
            exact kret _ _ _ _ dJ6_numberOfTrailingZeros_0f7a4_79 ⟨rfl, by unfold nz32; rw [if_pos c1, nz_t c2, nz_t c10, nz_t c14, nz_f c16]; rfl⟩
          · refine z_iinc (j := 1) (v := 31) (lv2 := [(1, .int 31), (0, .int (ziushr (ziushr (ziushr (nz_m x) 16) 8) 4))]) o dJ6_numberOfTrailingZeros_0f7a4_67 rfl (by decide) (by decide) rfl ?_
            refine z_iload_n (j := 1) o dJ6_numberOfTrailingZeros_0f7a4_70 rfl ?_
            refine z_iconst (v := 2) o dJ6_numberOfTrailingZeros_0f7a4_71 (by decide) ?_
            refine z_iushr o dJ6_numberOfTrailingZeros_0f7a4_72 ?_
            refine z_istore_n (i := 0) (lv2 := [(0, .int (ziushr (ziushr (ziushr (ziushr (nz_m x) 16) 8) 4) 2)), (1, .int 31)]) o dJ6_numberOfTrailingZeros_0f7a4_73 rfl (by decide) rfl ?_
            refine z_iload_n (j := 1) o dJ6_numberOfTrailingZeros_0f7a4_74 rfl ?_
            refine z_iload_n (j := 0) o dJ6_numberOfTrailingZeros_0f7a4_75 rfl ?_
            refine z_iconst (v := 1) o dJ6_numberOfTrailingZeros_0f7a4_76 (by decide) ?_
            refine z_iushr o dJ6_numberOfTrailingZeros_0f7a4_77 ?_
            refine z_iadd o dJ6_numberOfTrailingZeros_0f7a4_78 ?_
            exact kret _ _ _ _ dJ6_numberOfTrailingZeros_0f7a4_79 ⟨rfl, by unfold nz32; rw [if_pos c1, nz_t c2, nz_t c10, nz_t c14, nz_t c16]; rfl⟩
  · refine z_iload_n (j := 0) o dJ6_numberOfTrailingZeros_0f7a4_12 rfl ?_
    refine z_bipush (v := 32) o dJ6_numberOfTrailingZeros_0f7a4_13 (by decide) ?_
    refine z_iand o dJ6_numberOfTrailingZeros_0f7a4_15 ?_
    exact kret _ _ _ _ dJ6_numberOfTrailingZeros_0f7a4_16 ⟨rfl, by unfold nz32; rw [if_neg c1]⟩

set_option maxHeartbeats 4000000 in
set_option maxRecDepth 100000 in
theorem c_J13_nz {B : zB} (hB : znn B = 95) (M : zM) (N : zN) (x : Int64) : zCi B (zg B M N) yJ13_numberOfTrailingZeros_95d88 cJ13_numberOfTrailingZeros_95d88 3 (some .int) 1 [.long x] (fun r g' => g' = zg B M N ∧ r = nz64 x) := by
  refine zCi_of (by decide +kernel) (Nat.le_of_ble_eq_true rfl) .int rfl (fun _ _ _ => rfl) ?_
  intro X o kret
  show zW X B (zg B M N) 0 [(0, .long x)] []
  refine z_lload_n (j := 0) o dJ13_numberOfTrailingZeros_95d88_0 rfl ?_
  refine z_l2i o dJ13_numberOfTrailingZeros_95d88_1 ?_
  refine z_istore_n (i := 2) (lv2 := [(2, .int x.toInt32), (0, .long x)]) o dJ13_numberOfTrailingZeros_95d88_2 rfl (by decide) rfl ?_
  refine z_iload_n (j := 0) o dJ13_numberOfTrailingZeros_95d88_3 rfl ?_
  refine z_ifne (tgt := 21) o dJ13_numberOfTrailingZeros_95d88_4 (by decide) (fun c1 => ?_) (fun c1 => ?_)
  · refine z_iload_n (j := 0) o dJ13_numberOfTrailingZeros_95d88_21 rfl ?_
    refine z_callSi (As := [.int x.toInt32]) (n := 1) (st := []) o dJ13_numberOfTrailingZeros_95d88_22 (c_J6_nz hB M N x.toInt32) zc_J13_311 (by decide) rfl rfl (Nat.le_of_ble_eq_true rfl) (fun r2 g3 p4 => ?_)
    obtain ⟨rfl, rfl⟩ := p4
    exact kret _ _ _ _ dJ13_numberOfTrailingZeros_95d88_25 ⟨rfl, by unfold nz64; simp [*]⟩
  · refine z_bipush (v := 32) o dJ13_numberOfTrailingZeros_95d88_7 (by decide) ?_
    refine z_lload_n (j := 1) o dJ13_numberOfTrailingZeros_95d88_9 rfl ?_
    refine z_bipush (v := 32) o dJ13_numberOfTrailingZeros_95d88_10 (by decide) ?_
    refine z_lushr o dJ13_numberOfTrailingZeros_95d88_12 ?_
    refine z_l2i o dJ13_numberOfTrailingZeros_95d88_13 ?_
    refine z_callSi (As := [.int ((zlushr x 32).toInt32)]) (n := 1) (st := [.int 32]) o dJ13_numberOfTrailingZeros_95d88_14 (c_J6_nz hB M N ((zlushr x 32).toInt32)) zc_J13_311 (by decide) rfl rfl (Nat.le_of_ble_eq_true rfl) (fun r5 g6 p7 => ?_)
    obtain ⟨rfl, rfl⟩ := p7
    refine z_iadd o dJ13_numberOfTrailingZeros_95d88_17 ?_
    refine z_goto (tgt := 25) o dJ13_numberOfTrailingZeros_95d88_18 (by decide) ?_
    exact kret _ _ _ _ dJ13_numberOfTrailingZeros_95d88_25 ⟨rfl, by unfold nz64; simp [*]⟩

