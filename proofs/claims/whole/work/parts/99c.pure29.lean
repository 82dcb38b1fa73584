/-! salts: what a fence tries, salt elsewhere changes nothing -/
theorem zmax_c (p : Nat) : zmax (5 + p) = 63 := by
  unfold zmax
  rw [if_neg (by omega), if_neg (by omega), if_neg (by omega), if_neg (by omega), if_neg (by omega)]
def sp_go (ρ : Nat → Int32) (i p : Nat) : Int32 := sp_mv ρ i p (6 + 13 * i + (5 + p))
theorem go_cg {ρ1 ρ2 : Nat → Int32} {i p : Nat} (h1 : ρ1 (6 + 13 * i + (5 + p)) = ρ2 (6 + 13 * i + (5 + p))) (hh : sp_heads ρ1 i p = sp_heads ρ2 i p) (hk : ρ1 (6 + 13 * i + 0) = ρ2 (6 + 13 * i + 0)) (hs : ¬ sp_to ρ2 i p < 0 → (ρ1 (70 + zn (sp_to ρ2 i p)) = 0 ↔ ρ2 (70 + zn (sp_to ρ2 i p)) = 0)) (hw : ¬ sp_to ρ2 i p < 0 → ρ1 (134 + zn (sp_to ρ2 i p)) = ρ2 (134 + zn (sp_to ρ2 i p))) : sp_go ρ1 i p = sp_go ρ2 i p := by
  have ht : sp_to ρ1 i p = sp_to ρ2 i p := by unfold sp_to; rw [h1, hh]
  unfold sp_go sp_mv
  rw [ht, hk]
  by_cases q : sp_to ρ2 i p < 0
  · rw [if_pos q, if_pos q]; exact h1
  · rw [if_neg q, if_neg q, hw q]
    by_cases a : ρ2 (70 + zn (sp_to ρ2 i p)) = 0
    · rw [if_pos a, if_pos ((hs q).mpr a)]
      by_cases b : ρ2 (6 + 13 * i + 0) = 1 ∨ ρ2 (6 + 13 * i + 0) = 4
      · rw [if_pos b, if_pos b]
        by_cases c : ρ2 (134 + zn (sp_to ρ2 i p)) = 0
        · rw [if_pos c, if_pos c, upd_self, upd_self]
        · rw [if_neg c, if_neg c]; exact h1
      · rw [if_neg b, if_neg b, upd_self, upd_self]
    · rw [if_neg a, if_neg (fun z => a ((hs q).mp z))]; exact h1
theorem go_or (ρ : Nat → Int32) (i p : Nat) : sp_go ρ i p = ρ (6 + 13 * i + (5 + p)) ∨ (¬ sp_to ρ i p < 0 ∧ sp_go ρ i p = sp_to ρ i p) := by
  unfold sp_go sp_mv
  by_cases q : sp_to ρ i p < 0
  · rw [if_pos q]; exact Or.inl rfl
  · rw [if_neg q]
    by_cases a : ρ (70 + zn (sp_to ρ i p)) = 0
    · rw [if_pos a]
      by_cases b : ρ (6 + 13 * i + 0) = 1 ∨ ρ (6 + 13 * i + 0) = 4
      · rw [if_pos b]
        by_cases c : ρ (134 + zn (sp_to ρ i p)) = 0
        · rw [if_pos c, upd_self]; exact Or.inr ⟨q, rfl⟩
        · rw [if_neg c]; exact Or.inl rfl
      · rw [if_neg b, upd_self]; exact Or.inr ⟨q, rfl⟩
    · rw [if_neg a]; exact Or.inl rfl
theorem mvs_self {ρ : Nat → Int32} {i p : Nat} (hi : i < 4) : ∀ n, n ≤ 8 → p < n → sp_mvs ρ i n (6 + 13 * i + (5 + p)) = sp_go ρ i p
  | 0, _, h => absurd h (Nat.not_lt_zero _)
  | n + 1, hn, h => by
    show sp_mv (sp_mvs ρ i n) i n (6 + 13 * i + (5 + p)) = _
    by_cases q : p = n
    · subst q
      show sp_go (sp_mvs ρ i p) i p = _
      refine go_cg (sp_mvs_ne _ _ (fun _ _ => by omega)) (sp_mvs_heads (by omega)) (sp_mvs_ne _ _ (fun _ _ => by omega)) (fun _ => ?_) (fun _ => sp_mvs_ne _ _ (fun _ _ => by omega))
      rw [sp_mvs_ne _ _ (fun _ _ => by omega)]
    · rw [sp_mv_ne _ (by omega)]
      exact mvs_self hi n (by omega) (by omega)
theorem mvF_cell {ρ : Nat → Int32} {i p : Nat} (hp : p < 8) : ∀ n, n ≤ 4 → zOkR ρ → i < n → sp_mvF ρ n (6 + 13 * i + (5 + p)) = sp_mvs (sp_mvF ρ i) i (sp_np (sp_mvF ρ i) i) (6 + 13 * i + (5 + p))
  | 0, _, _, h => absurd h (Nat.not_lt_zero _)
  | n + 1, hn, hok, h => by
    show sp_mvs (sp_mvF ρ n) n (sp_np (sp_mvF ρ n) n) (6 + 13 * i + (5 + p)) = _
    have h8 := (ok_np2 (ok_mvF hok n (by omega)) (i := n) (by omega)).2
    by_cases q : i = n
    · subst q; rfl
    · rw [sp_mvs_ne _ _ (fun p2 hp2 => by omega)]
      exact mvF_cell hp n (by omega) hok (by omega)
theorem moves_cell {ρ : Nat → Int32} (hok : zOkR ρ) {i p : Nat} (hi : i < sp_nf ρ) (hp : p < 8) : sp_moves ρ (6 + 13 * i + (5 + p)) = if p < sp_np ρ i then sp_go ρ i p else ρ (6 + 13 * i + (5 + p)) := by
  have h4 := (ok_nf2 hok).2
  have hne : ∀ k, (k < 6 ∨ 6 + 13 * i ≤ k) → sp_mvF ρ i k = ρ k := fun k w => sp_mvF_ne hok i (by omega) (fun i2 p2 a b => by omega)
  have enp : sp_np (sp_mvF ρ i) i = sp_np ρ i := by unfold sp_np; rw [hne _ (by omega)]
  have h8 := (ok_np2 hok (i := i) (by omega)).2
  unfold sp_moves
  rw [upd_ne (by omega), mvF_cell hp _ h4 hok hi, enp]
  by_cases q : p < sp_np ρ i
  · rw [if_pos q, mvs_self (by omega) _ h8 q]
    refine go_cg (hne _ (by omega)) ?_ (hne _ (by omega)) (fun _ => ?_) (fun _ => hne _ (by omega))
    · unfold sp_heads
      rw [hne 0 (by omega), hne (6 + 13 * i + 0) (by omega), hne (6 + 13 * i + 1) (by omega), hne (6 + 13 * i + 2) (by omega)]
    · rw [hne _ (by omega)]
  · rw [if_neg q, sp_mvs_ne _ _ (fun p2 hp2 => by omega)]
    exact hne _ (by omega)
theorem moves_0 {ρ : Nat → Int32} (hok : zOkR ρ) : sp_moves ρ 0 = ρ 0 + 1 := by
  unfold sp_moves
  rw [upd_self, sp_mvF_ne hok _ (ok_nf2 hok).2 (fun i p _ _ => by omega)]
theorem movesN_0 {ρ : Nat → Int32} (hok : zOkR ρ) : ∀ k, sp_movesN ρ k 0 = ρ 0 + nI k
  | 0 => by show ρ 0 = ρ 0 + 0; rw [Int32.add_zero]
  | k + 1 => by
    show sp_moves (sp_movesN ρ k) 0 = _
    rw [moves_0 (ok_movesN hok k), movesN_0 hok k, Int32.add_assoc, nI_1]
theorem movesN_nf {ρ : Nat → Int32} (hok : zOkR ρ) (k : Nat) : sp_nf (sp_movesN ρ k) = sp_nf ρ := by
  unfold sp_nf; rw [sp_movesN_ne hok (by decide) (fun i p _ _ => by omega)]
/-- heads at a dawn later -/
theorem heads_N {ρ : Nat → Int32} (hok : zOkR ρ) {i p : Nat} (k : Nat) : sp_heads (sp_movesN ρ k) i p = cg_hd (ρ (6 + 13 * i + 0)) (ρ (6 + 13 * i + 1)) (ρ (6 + 13 * i + 2)) (nI p) (ρ 0 + nI k) := by
  rw [← cg_hd_eq, sp_movesN_ne hok (by omega) (fun i p _ _ => by omega), sp_movesN_ne hok (by omega) (fun i p _ _ => by omega), sp_movesN_ne hok (by omega) (fun i p _ _ => by omega), movesN_0 hok]
/-- a cell's next one is among the next ones of a set -/
theorem nx_0 : ∀ c : Fin 64, ¬ sp_next (nI c.1) 0 < 0 → 8 ≤ c.1 ∧ sp_next (nI c.1) 0 = nI (c.1 - 8) := by decide +kernel
theorem nx_1 : ∀ c : Fin 64, ¬ sp_next (nI c.1) 1 < 0 → c.1 % 8 ≠ 7 ∧ sp_next (nI c.1) 1 = nI (c.1 + 1) := by decide +kernel
theorem nx_2 : ∀ c : Fin 64, ¬ sp_next (nI c.1) 2 < 0 → c.1 < 56 ∧ sp_next (nI c.1) 2 = nI (c.1 + 8) := by decide +kernel
theorem nx_3 : ∀ c : Fin 64, ¬ sp_next (nI c.1) 3 < 0 → c.1 % 8 ≠ 0 ∧ sp_next (nI c.1) 3 = nI (c.1 - 1) := by decide +kernel
theorem nx_bit {x : Int64} {c : Nat} {w : Int32} (hc : c < 64) (hb : lbit x c = true) (hn : ¬ sp_next (nI c) w < 0) : zn (sp_next (nI c) w) < 64 ∧ lbit (cg_nx x w) (zn (sp_next (nI c) w)) = true := by
  unfold cg_nx
  by_cases h0 : w = 0
  · subst h0
    obtain ⟨a, e⟩ := nx_0 ⟨c, hc⟩ hn
    have a : 8 ≤ c := a
    have e : sp_next (nI c) 0 = nI (c - 8) := e
    rw [e, zn_nI (by omega), if_pos rfl]
    refine ⟨by omega, ?_⟩
    rw [show (8 : Int32) = nI 8 from rfl, lb_ushr (by decide), show 8 + (c - 8) = c by omega]; exact hb
  · rw [if_neg h0]
    by_cases h1 : w = 1
    · subst h1
      obtain ⟨a, e⟩ := nx_1 ⟨c, hc⟩ hn
      have a : c % 8 ≠ 7 := a
      have e : sp_next (nI c) 1 = nI (c + 1) := e
      have hc1 : c + 1 < 64 := by omega
      rw [e, zn_nI (by omega), if_pos rfl]
      refine ⟨hc1, ?_⟩
      rw [show (1 : Int32) = nI 1 from rfl, lb_shl (by decide) hc1, Nat.add_sub_cancel, lbit_and, hb, lb_nl c hc, decide_eq_true a, decide_eq_true (show 1 ≤ c + 1 by omega)]; rfl
    · rw [if_neg h1]
      by_cases h2 : w = 2
      · subst h2
        obtain ⟨a, e⟩ := nx_2 ⟨c, hc⟩ hn
        have a : c < 56 := a
        have e : sp_next (nI c) 2 = nI (c + 8) := e
        rw [e, zn_nI (by omega), if_pos rfl]
        refine ⟨by omega, ?_⟩
        rw [show (8 : Int32) = nI 8 from rfl, lb_shl (by decide) (by omega), Nat.add_sub_cancel, hb, decide_eq_true (show 8 ≤ c + 8 by omega)]; rfl
      · rw [if_neg h2]
        by_cases h3 : w = 3
        · subst h3
          obtain ⟨a, e⟩ := nx_3 ⟨c, hc⟩ hn
          have a : c % 8 ≠ 0 := a
          have e : sp_next (nI c) 3 = nI (c - 1) := e
          rw [e, zn_nI (by omega), if_pos rfl]
          refine ⟨by omega, ?_⟩
          rw [show (1 : Int32) = nI 1 from rfl, lb_ushr (by decide), show 1 + (c - 1) = c by omega, lbit_and, hb, lb_nf c hc, decide_eq_true a]; rfl
        · exfalso
          apply hn
          unfold sp_next
          rw [if_neg h0, if_neg h1, if_neg h2, if_neg h3]; decide
/-- what is tried -/
theorem tr_mono {hd : Nat → Int32} {x : Int64 × Int64} {t : Nat} : ∀ {j n : Nat}, j ≤ n → lbit (tr_s hd x j).2 t = true → lbit (tr_s hd x n).2 t = true := by
  intro j n h
  induction n with
  | zero => intro q; obtain rfl : j = 0 := by omega
            exact q
  | succ n ih =>
    intro q
    rcases Nat.lt_or_ge n j with w | w
    · obtain rfl : j = n + 1 := by omega
      exact q
    · show lbit ((tr_s hd x n).2 ||| cg_nx (tr_s hd x n).1 (hd n)) t = true
      rw [lbit_or, ih w q]; rfl
theorem trp_mono {ρ : Nat → Int32} {i n t : Nat} {x : Int32} : ∀ {p m : Nat}, p ≤ m → lbit (tr_p ρ i n x p) t = true → lbit (tr_p ρ i n x m) t = true := by
  intro p m h
  induction m with
  | zero => intro q; obtain rfl : p = 0 := by omega
            exact q
  | succ m ih =>
    intro q
    rcases Nat.lt_or_ge m p with w | w
    · obtain rfl : p = m + 1 := by omega
      exact q
    · exact tr_mono (j := 0) (Nat.zero_le n) (ih w q)
/-- rows that differ by salt that is not tried -/
def zAg (T : Int64) (ρ1 ρ2 : Nat → Int32) : Prop := (∀ k, k < 70 ∨ 134 ≤ k → ρ1 k = ρ2 k) ∧ ∀ t, t < 64 → lbit T t = true → (ρ1 (70 + t) = 0 ↔ ρ2 (70 + t) = 0)
theorem tr_at {ρ ρ2 : Nat → Int32} (hok : zOkR ρ2) (h : ∀ k, k < 70 ∨ 134 ≤ k → ρ2 k = ρ k) {f n p : Nat} (hf : f < sp_nf ρ2) (hp : p < sp_np ρ2 f) : ∀ j, j ≤ n → lbit (tr_s (fun j => cg_hd (ρ (6 + 13 * f + 0)) (ρ (6 + 13 * f + 1)) (ρ (6 + 13 * f + 2)) (nI p) (ρ 0 + nI j)) (zlshl 1 (ρ (6 + 13 * f + (5 + p))), tr_p ρ f n (ρ 0) p) j).1 (zn (sp_movesN ρ2 j (6 + 13 * f + (5 + p)))) = true := by
  have hf4 := (ok_nf2 hok).2
  have hp8 := (ok_np2 hok (i := f) (by omega)).2
  intro j
  induction j with
  | zero =>
    intro _
    show lbit (zlshl 1 (ρ (6 + 13 * f + (5 + p)))) (zn (ρ2 (6 + 13 * f + (5 + p)))) = true
    rw [h _ (by omega)]
    obtain ⟨c, hc, e⟩ := hok _ _ (zbd_f (i := f) (j := 5 + p) (by omega) (by omega))
    have hc : c < 64 := by have : c ≤ zmax (5 + p) := hc; have e9 : zmax (5 + p) = 63 := zmax_c p; omega
    rw [h _ (by omega)] at e
    rw [e, zn_nI (by omega), lb_bit hc hc, decide_eq_true rfl]
  | succ j ih =>
    intro hj
    have hb := ih (by omega)
    have hokj := ok_movesN hok j
    have enf : f < sp_nf (sp_movesN ρ2 j) := by rw [movesN_nf hok]; exact hf
    have enp : sp_np (sp_movesN ρ2 j) f = sp_np ρ2 f := movesN_np hok (by omega) j
    obtain ⟨c, hc, e⟩ := hokj _ _ (zbd_f (i := f) (j := 5 + p) (by omega) (by omega))
    have hc : c < 64 := by have : c ≤ zmax (5 + p) := hc; have e9 : zmax (5 + p) = 63 := zmax_c p; omega
    have eh : sp_heads (sp_movesN ρ2 j) f p = cg_hd (ρ (6 + 13 * f + 0)) (ρ (6 + 13 * f + 1)) (ρ (6 + 13 * f + 2)) (nI p) (ρ 0 + nI j) := by rw [heads_N hok, h _ (by omega), h _ (by omega), h _ (by omega), h _ (by omega)]
    show lbit (_ ||| cg_nx _ _) (zn (sp_moves (sp_movesN ρ2 j) (6 + 13 * f + (5 + p)))) = true
    rw [moves_cell hokj enf (by omega), enp, if_pos hp, lbit_or]
    rw [e, zn_nI (by omega)] at hb
    rcases go_or (sp_movesN ρ2 j) f p with q | ⟨q1, q2⟩
    · rw [q, e, zn_nI (by omega), hb]; rfl
    · rw [q2]
      unfold sp_to at q1 ⊢
      rw [e, eh] at q1 ⊢
      rw [(nx_bit hc hb q1).2, Bool.or_true]
theorem tr_in {ρ ρ2 : Nat → Int32} (hok : zOkR ρ2) (h : ∀ k, k < 70 ∨ 134 ≤ k → ρ2 k = ρ k) {f n p : Nat} (hf : f < sp_nf ρ2) (hp : p < sp_np ρ2 f) {j : Nat} (hj : j < n) (hq : ¬ sp_to (sp_movesN ρ2 j) f p < 0) : zn (sp_to (sp_movesN ρ2 j) f p) < 64 ∧ lbit (tr_p ρ f n (ρ 0) (sp_np ρ f)) (zn (sp_to (sp_movesN ρ2 j) f p)) = true := by
  have hf4 := (ok_nf2 hok).2
  have hp8 := (ok_np2 hok (i := f) (by omega)).2
  have hb := tr_at hok h (n := n) hf hp j (by omega)
  have hokj := ok_movesN hok j
  obtain ⟨c, hc, e⟩ := hokj _ _ (zbd_f (i := f) (j := 5 + p) (by omega) (by omega))
  have hc : c < 64 := by have : c ≤ zmax (5 + p) := hc; have e9 : zmax (5 + p) = 63 := zmax_c p; omega
  have eh : sp_heads (sp_movesN ρ2 j) f p = cg_hd (ρ (6 + 13 * f + 0)) (ρ (6 + 13 * f + 1)) (ρ (6 + 13 * f + 2)) (nI p) (ρ 0 + nI j) := by rw [heads_N hok, h _ (by omega), h _ (by omega), h _ (by omega), h _ (by omega)]
  have enp : sp_np ρ2 f = sp_np ρ f := by unfold sp_np; rw [h _ (by omega)]
  rw [e, zn_nI (by omega)] at hb
  unfold sp_to at hq ⊢
  rw [e, eh] at hq ⊢
  obtain ⟨a, b⟩ := nx_bit hc hb hq
  refine ⟨a, trp_mono (p := p + 1) (by omega) ?_⟩
  refine tr_mono (j := j + 1) (by omega) ?_
  show lbit (_ ||| cg_nx _ _) _ = true
  rw [lbit_or, b, Bool.or_true]
theorem movesN_ag {ρ ρ1 ρ2 : Nat → Int32} (hok1 : zOkR ρ1) (hok2 : zOkR ρ2) (h2 : ∀ k, k < 70 ∨ 134 ≤ k → ρ2 k = ρ k) {f n : Nat} (hf : f < sp_nf ρ) (hag : zAg (tr_p ρ f n (ρ 0) (sp_np ρ f)) ρ1 ρ2) : ∀ j, j ≤ n → ∀ p, p < 8 → sp_movesN ρ1 j (6 + 13 * f + (5 + p)) = sp_movesN ρ2 j (6 + 13 * f + (5 + p)) := by
  have e2 : sp_nf ρ2 = sp_nf ρ := by unfold sp_nf; rw [h2 _ (by omega)]
  have e1 : sp_nf ρ1 = sp_nf ρ := by unfold sp_nf; rw [hag.1 _ (by omega), h2 _ (by omega)]
  have hf4 := (ok_nf2 hok2).2
  have p2 : sp_np ρ1 f = sp_np ρ2 f := by unfold sp_np; rw [hag.1 _ (by omega)]
  have hp8 := (ok_np2 hok2 (i := f) (by omega)).2
  intro j
  induction j with
  | zero => intro _ p hp; exact hag.1 _ (by omega)
  | succ j ih =>
    intro hj p hp
    have ihj := ih (by omega) p hp
    show sp_moves (sp_movesN ρ1 j) _ = sp_moves (sp_movesN ρ2 j) _
    rw [moves_cell (ok_movesN hok1 j) (by rw [movesN_nf hok1, e1]; exact hf) hp, moves_cell (ok_movesN hok2 j) (by rw [movesN_nf hok2, e2]; exact hf) hp, movesN_np hok1 (by omega), movesN_np hok2 (by omega), p2]
    by_cases q : p < sp_np ρ2 f
    · rw [if_pos q, if_pos q]
      refine go_cg ihj ?_ ?_ (fun w => ?_) (fun w => ?_)
      · rw [heads_N hok1, heads_N hok2, hag.1 _ (by omega), hag.1 _ (by omega), hag.1 _ (by omega), hag.1 _ (by omega)]
      · rw [sp_movesN_ne hok1 (by omega) (fun _ _ _ _ => by omega), sp_movesN_ne hok2 (by omega) (fun _ _ _ _ => by omega)]; exact hag.1 _ (by omega)
      · obtain ⟨a, b⟩ := tr_in hok2 h2 (n := n) (by rw [e2]; exact hf) q (by omega) w
        rw [sp_movesN_ne hok1 (by omega) (fun _ _ _ _ => by omega), sp_movesN_ne hok2 (by omega) (fun _ _ _ _ => by omega)]
        exact hag.2 _ a b
      · rw [sp_movesN_ne hok1 (by omega) (fun _ _ _ _ => by omega), sp_movesN_ne hok2 (by omega) (fun _ _ _ _ => by omega)]; exact hag.1 _ (by omega)
    · rw [if_neg q, if_neg q]; exact ihj
