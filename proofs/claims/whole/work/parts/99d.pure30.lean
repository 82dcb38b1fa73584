/-! salts (2) -/
theorem salt1_ne {ρ : Nat → Int32} {a : Int32} {k : Nat} (ha : zCell a) (hk : k < 70 ∨ 134 ≤ k) : sp_salt1 ρ a k = ρ k := by
  unfold sp_salt1
  by_cases h : a < 0
  · rw [if_pos h]
  · rw [if_neg h]
    rcases ha with q | ⟨t, ht, rfl⟩
    · exact absurd q h
    · rw [zn_nI (by omega), upd_ne (by omega)]
theorem salt1_at {ρ : Nat → Int32} {a t : Nat} (ha : a < 64) : sp_salt1 ρ (nI a) (70 + t) = if t = a then 1 else ρ (70 + t) := by
  unfold sp_salt1
  rw [if_neg (nI_pos (by omega)), zn_nI (by omega)]
  by_cases h : t = a
  · subst h; rw [if_pos rfl, upd_self]
  · rw [if_neg h, upd_ne (by omega)]
theorem salt1_m {ρ : Nat → Int32} : sp_salt1 ρ (-1) = ρ := if_pos (by decide)
theorem salt_ne {ρ : Nat → Int32} {a b : Int32} {k : Nat} (ha : zCell a) (hb : zCell b) (hk : k < 70 ∨ 134 ≤ k) : sp_salt ρ a b k = ρ k := by
  unfold sp_salt
  rw [salt1_ne hb hk, salt1_ne ha hk]
theorem cell_m : zCell (-1) := Or.inl (by decide)
theorem cell_n {a : Nat} (h : a < 64) : zCell (nI a) := Or.inr ⟨a, h, rfl⟩
theorem salt_ag {ρ : Nat → Int32} {a : Int32} {b t : Nat} (hb : b < 64) : sp_salt ρ a (nI b) (70 + t) = if t = b then 1 else sp_salt1 ρ a (70 + t) := by
  unfold sp_salt; exact salt1_at hb
theorem had_cg {ρ ρ1 ρ2 : Nat → Int32} (hok1 : zOkR ρ1) (hok2 : zOkR ρ2) (h2 : ∀ k, k < 70 ∨ 134 ≤ k → ρ2 k = ρ k) {f n : Nat} (hf : f < sp_nf ρ) (hag : zAg (tr_p ρ f n (ρ 0) (sp_np ρ f)) ρ1 ρ2) : sp_ins (sp_movesN ρ1 n) f = sp_ins (sp_movesN ρ2 n) f := by
  have e2 : sp_nf ρ2 = sp_nf ρ := by unfold sp_nf; rw [h2 _ (by omega)]
  have hf4 := (ok_nf2 hok2).2
  refine sp_ins_cg (ok_np2 (ok_movesN hok2 n) (by omega)).2 ?_ (fun p hp => movesN_ag hok1 hok2 h2 hf hag n (Nat.le_refl _) p hp)
  rw [sp_movesN_ne hok1 (by omega) (fun _ _ _ _ => by omega), sp_movesN_ne hok2 (by omega) (fun _ _ _ _ => by omega)]
  exact hag.1 _ (by omega)
/-- the first of two salts changes nothing -/
theorem had_a {ρ : Nat → Int32} (hok : zOkR ρ) {f c n a : Nat} {b : Int32} (hf : f < sp_nf ρ) (ha : a < 64) (hb : zCell b) (h : lbit (tr_p ρ f n (ρ 0) (sp_np ρ f)) a = false ∨ ¬ ρ (70 + a) = 0) : sp_hadB ρ f c n (nI a) b = sp_hadB ρ f c n (-1) b := by
  unfold sp_hadB
  rw [had_cg (ρ := ρ) (ρ1 := sp_salt ρ (nI a) b) (ρ2 := sp_salt ρ (-1) b) (ok_salt1 (ok_salt1 hok (cell_n ha)) hb) (ok_salt1 (ok_salt1 hok cell_m) hb) (fun k hk => salt_ne cell_m hb hk) hf ⟨fun k hk => by rw [salt_ne (cell_n ha) hb hk, salt_ne cell_m hb hk], fun t ht hT => ?_⟩]
  have key : sp_salt1 ρ (nI a) (70 + t) = 0 ↔ ρ (70 + t) = 0 := by
    rw [salt1_at ha]
    by_cases q : t = a
    · subst q
      rw [if_pos rfl]
      rcases h with h | h
      · rw [h] at hT; exact absurd hT Bool.false_ne_true
      · exact ⟨fun w => absurd w (by decide), fun w => absurd w h⟩
    · rw [if_neg q]
  unfold sp_salt
  rw [salt1_m]
  rcases hb with hb | ⟨b2, hb2, rfl⟩
  · unfold sp_salt1 at key ⊢
    rw [if_pos hb, if_pos hb]; exact key
  · rw [salt1_at hb2, salt1_at hb2]
    by_cases q : t = b2
    · rw [if_pos q, if_pos q]
    · rw [if_neg q, if_neg q]; exact key
/-- the second changes nothing -/
theorem had_b {ρ : Nat → Int32} (hok : zOkR ρ) {f c n b : Nat} {a : Int32} (hf : f < sp_nf ρ) (hb : b < 64) (ha : zCell a) (h : lbit (tr_p ρ f n (ρ 0) (sp_np ρ f)) b = false ∨ ¬ ρ (70 + b) = 0) : sp_hadB ρ f c n a (nI b) = sp_hadB ρ f c n a (-1) := by
  unfold sp_hadB
  rw [had_cg (ρ := ρ) (ρ1 := sp_salt ρ a (nI b)) (ρ2 := sp_salt ρ a (-1)) (ok_salt1 (ok_salt1 hok ha) (cell_n hb)) (ok_salt1 (ok_salt1 hok ha) cell_m) (fun k hk => salt_ne ha cell_m hk) hf ⟨fun k hk => by rw [salt_ne ha (cell_n hb) hk, salt_ne ha cell_m hk], fun t ht hT => ?_⟩]
  unfold sp_salt
  rw [salt1_m, salt1_at hb]
  by_cases q : t = b
  · subst q
    rw [if_pos rfl]
    rcases h with h | h
    · rw [h] at hT; exact absurd hT Bool.false_ne_true
    · refine ⟨fun w => absurd w (by decide), fun w => absurd ?_ h⟩
      rcases ha with ha | ⟨a2, ha2, rfl⟩
      · unfold sp_salt1 at w; rw [if_pos ha] at w; exact w
      · rw [salt1_at ha2] at w
        by_cases z : t = a2
        · rw [if_pos z] at w; exact absurd w (by decide)
        · rw [if_neg z] at w; exact w
  · rw [if_neg q]
theorem had_sw {ρ : Nat → Int32} {f c n b : Nat} : sp_hadB ρ f c n (-1) (nI b) = sp_hadB ρ f c n (nI b) (-1) := by
  unfold sp_hadB sp_salt
  rw [salt1_m, salt1_m]
theorem moves_mvs {ρ : Nat → Int32} (hok : zOkR ρ) {i p : Nat} (hi : i < sp_nf ρ) (hp : p < 8) : sp_moves ρ (6 + 13 * i + (5 + p)) = sp_mvs ρ i (sp_np ρ i) (6 + 13 * i + (5 + p)) := by
  have h4 := (ok_nf2 hok).2
  have h8 := (ok_np2 hok (i := i) (by omega)).2
  rw [moves_cell hok hi hp]
  by_cases q : p < sp_np ρ i
  · rw [if_pos q, mvs_self (by omega) _ h8 q]
  · rw [if_neg q, sp_mvs_ne _ _ (fun p2 hp2 => by omega)]
theorem has_hasB {x : Int64} {c : Nat} (hc : c < 64) : cg_has x (nI c) = if sp_hasB x c then 1 else 0 := by
  unfold cg_has sp_hasB
  cases h : lbit x c with
  | false =>
    have h0 := (lb_has0 hc).mpr h
    rw [if_pos h0, if_neg (by rw [decide_eq_true_iff, h0]; decide)]
  | true =>
    have h1 := (lb_has hc).mpr h
    rw [if_neg (by rw [h1]; decide), if_pos (decide_eq_true h1)]
theorem zRl.few {M M1 : zM} {N : zN} {A : zM} (h : zRl M N A) (hm : ∀ j, j < 53 ∨ 61 ≤ j → M1 j = M j) : zRl M1 N A :=
  h.sc (h.1.fr (fun j _ _ => hm j (by omega)) (fun _ _ _ => rfl)) (fun j hj => hm j (by omega)) (fun _ _ => rfl) (fun u hu => by rw [hm _ (by omega)]; exact (h.2.2.1 u hu).2)
/-- what fewestSalts tells -/
def sp_few (ρ : Nat → Int32) (f c n : Nat) : Int64 := if sp_hadB ρ f c n (-1) (-1) = true then 0 else if sp_sa ρ f c n < 64 then bt (sp_sa ρ f c n) else if sp_sab ρ f c n < 64 then bt (sp_sab ρ f c n) ||| bt (sp_sb ρ f c n (sp_sab ρ f c n)) else -1
theorem find_no {p : Nat → Bool} : ∀ n k, (∀ j, k ≤ j → j < k + n → p j = false) → sp_find p n k = k + n
  | 0, _, _ => rfl
  | n + 1, k, h => by
    rw [sp_find_f (h k (Nat.le_refl _) (by omega)), find_no n (k + 1) (fun j a b => h j (by omega) (by omega))]
    omega
theorem find_all {p : Nat → Bool} : ∀ n k, sp_find p n k = k + n → ∀ j, k ≤ j → j < k + n → p j = false
  | 0, k, _, j, a, b => by omega
  | n + 1, k, h, j, a, b => by
    cases q : p k with
    | true => rw [sp_find_t q] at h; omega
    | false =>
      rw [sp_find_f q] at h
      by_cases w : j = k
      · rw [w]; exact q
      · exact find_all n (k + 1) (by omega) j (by omega) (by omega)
theorem zBits.or0 {x : Int64} {ρ : Nat → Int32} {a : Nat} (h : zBits x ρ a) : zBits (x ||| 0) ρ a := fun c hc => by rw [lbit_or, lbit_0, Bool.or_false]; exact h c hc
theorem zBits.salt {x : Int64} {ρ : Nat → Int32} {a : Nat} (h : zBits x ρ 70) (ha : a < 64) : zBits (x ||| bt a) (sp_salt1 ρ (nI a)) 70 := by
  intro c hc
  unfold bt
  rw [lbit_or, lb_bit ha hc, h c hc, salt1_at ha]
  by_cases q : c = a
  · subst q; rw [if_pos rfl, decide_eq_true rfl, Bool.or_true]; decide
  · rw [if_neg q, decide_eq_false q, Bool.or_false]
