/-! what holds of the reference's world stays -/
def zInv (A : zM) : Prop := zOkAll (A 83) ∧ (¬ A 82 3 = 0 → zOkAll (A 84)) ∧ zShOk A ∧ zTrOk A
theorem zInv.er {A : zM} {k : Nat} (h : zInv A) : zInv (zEr A k) := by
  obtain ⟨a, b, c, d⟩ := h
  unfold zEr
  refine ⟨by rw [zu_ne (by decide)]; exact a, fun q => ?_, fun s hs => by rw [zu_ne (by decide)]; exact c s hs, ?_⟩
  · rw [zu_ne (by decide)] at q ⊢; exact b q
  · unfold zTrOk; rw [zu_ne (by decide)]; exact d
theorem zInv.now {A : zM} {ρ : Nat → Int32} (h : zInv A) (h1 : zOkAll ρ) : zInv (va_up A 83 ρ) := by
  obtain ⟨a, b, c, d⟩ := h
  refine ⟨by rw [va_up_self]; exact h1, fun q => ?_, fun s hs => by rw [va_up_ne _ _ (by decide)]; exact c s hs, ?_⟩
  · rw [va_up_ne _ _ (by decide)] at q ⊢; exact b q
  · unfold zTrOk; rw [va_up_ne _ _ (by decide)]; exact d
theorem zInv.vo {A : zM} {l : List Int32} (h : zInv A) (hl : l.length ≤ 30) : zInv (vo_M A l) := by
  obtain ⟨a, b, c, d⟩ := h
  have e : ∀ i, i ≠ 82 → i ≠ 94 → vo_M A l i = A i := fun i q w => by unfold vo_M; rw [va_up_ne _ _ w, zu_ne q]
  refine ⟨by rw [e 83 (by decide) (by decide)]; exact a, fun q => ?_, fun s hs => by rw [e 88 (by decide) (by decide)]; exact c s hs, ?_⟩
  · rw [e 84 (by decide) (by decide)]
    refine b (fun z => q ?_)
    unfold vo_M; rw [va_up_ne _ _ (by decide), zu_at, upd_ne (by decide)]; exact z
  · unfold zTrOk vo_M; rw [va_up_ne _ _ (by decide), zu_at, upd_self]; exact ⟨l.length, hl, rfl⟩
theorem okU {ρ : Nat → Int32} {k m : Nat} {v : Int32} (h : zOkAll ρ) (hk : k < 282) (hb : zbd k = some m) (hv : zle v m) : zOkAll (upd ρ k v) := zOkAll_upd h hk (fun m2 q => by rw [hb] at q; cases q; exact hv)
theorem okN {ρ : Nat → Int32} {k : Nat} {v : Int32} (h : zOkAll ρ) (hk : k < 282) (hb : zbd k = none) : zOkAll (upd ρ k v) := zOkAll_upd h hk (fun m2 q => by rw [hb] at q; cases q)
theorem zle_in {v b : Int32} {n : Nat} (hb : b.toInt = n) (hn : n < 2 ^ 31) (h : ¬ zin v 0 b = 0) : zle v n := by
  obtain ⟨k, hk, e⟩ := zin_lit hb hn h
  exact ⟨k, hk, e⟩
theorem zle_km {km : Int32} (h : ¬ zin km 0 69 = 0) : zle (km / 10) 6 ∧ zle (zirem km 10) 9 := by
  obtain ⟨k, hk, rfl⟩ := zin_lit (n := 69) rfl (by decide) h
  refine ⟨⟨k / 10, by omega, pk_div (d := 10) (by omega) (by decide) (by decide)⟩, ⟨k % 10, by omega, ?_⟩⟩
  exact zrem_nat (x := nI k) (d := 10) rfl (by omega) (by decide) (by decide)
theorem fence_nat {ρ : Nat → Int32} {f : Int32} (hok : zOkR ρ) (h : ¬ zin f 0 (ρ 2 - 1) = 0) : zn f < sp_nf ρ ∧ sp_nf ρ ≤ 4 := by
  obtain ⟨hnf, hnf4⟩ := ok_nf2 hok
  rw [hnf] at h
  obtain ⟨a, ha, rfl⟩ := zin_nat (by omega) h
  rw [zn_nI (by omega)]; exact ⟨ha, hnf4⟩
theorem cow_nat {ρ : Nat → Int32} {f : Int32} (hok : zOkR ρ) (h : ¬ zin f 0 (ρ 3 - 1) = 0) : zn f < sp_nc ρ ∧ sp_nc ρ ≤ 6 := by
  obtain ⟨hnf, hnf4⟩ := ok_nc2 hok
  rw [hnf] at h
  obtain ⟨a, ha, rfl⟩ := zin_nat (by omega) h
  rw [zn_nI (by omega)]; exact ⟨ha, hnf4⟩
theorem lit_nat {v b : Int32} {n : Nat} (hb : b.toInt = n) (hn : n < 2 ^ 31) (h : ¬ zin v 0 b = 0) : zn v ≤ n := by
  obtain ⟨k, hk, e⟩ := zin_lit hb hn h
  rw [e, zn_nI (by omega)]; exact hk
theorem sq_at_inv {A : zM} (h : zInv A) (f : Int32) (p : Int32) : zInv (sq_at A f p).2 := by
  unfold sq_at
  (repeat' split) <;> first | exact h | exact h.er
theorem sq_heads_inv {A : zM} (h : zInv A) (f : Int32) (p : Int32) : zInv (sq_heads A f p).2 := by
  unfold sq_heads
  (repeat' split) <;> first | exact h | exact h.er
theorem sq_as_inv {A : zM} (h : zInv A) (f : Int32) (kd : Int32) : zInv (sq_as A f kd).2 := by
  unfold sq_as
  (repeat' split) <;> first | exact h | exact h.er
theorem sq_land_inv {A : zM} (h : zInv A) (f : Int32) (w : Int32) : zInv (sq_land A f w).2 := by
  unfold sq_land
  (repeat' split) <;> first | exact h | exact h.er
theorem sq_count_inv {A : zM} (h : zInv A) (w : Int32) : zInv (sq_count A w).2 := by
  unfold sq_count
  (repeat' split) <;> first | exact h | exact h.er
theorem sq_told_inv {A : zM} (h : zInv A) (k : Int32) : zInv (sq_told A k).2 := by
  unfold sq_told
  (repeat' split) <;> first | exact h | exact h.er
theorem sq_body_inv {A : zM} (h : zInv A) (i : Int32) : zInv (sq_body A i).2 := by
  unfold sq_body
  (repeat' split) <;> first | exact h | exact h.er
theorem sq_judge_inv {A : zM} (h : zInv A) (s : Int32) : zInv (sq_judge A s).2 := by
  unfold sq_judge
  (repeat' split) <;> first | exact h | exact h.er
theorem sq_law_inv {A : zM} (h : zInv A) (u : Int32) (a : Int32) (b : Int32) (c : Int32) : zInv (sq_law A u a b c).2 := by
  unfold sq_law
  (repeat' split) <;> first | exact h | exact h.er
theorem sq_fenceIs_inv {A : zM} (h : zInv A) (f : Int32) (w : Int32) : zInv (sq_fenceIs A f w).2 := by
  unfold sq_fenceIs
  (repeat' split) <;> first | exact h | exact h.er
theorem sq_cowIs_inv {A : zM} (h : zInv A) (c : Int32) (w : Int32) : zInv (sq_cowIs A c w).2 := by
  unfold sq_cowIs
  (repeat' split) <;> first | exact h | exact h.er
theorem sq_then_inv {A : zM} (h : zInv A) (f : Int32) (n : Int32) (w : Int32) : zInv (sq_then A f n w).2 := by
  unfold sq_then
  (repeat' split) <;> first | exact h | exact h.er
theorem sq_first_inv {A : zM} (h : zInv A) (c : Int32) (w : Int32) : zInv (sq_first A c w).2 := by
  unfold sq_first
  (repeat' split) <;> first | exact h | exact h.er
theorem sq_way_inv {A : zM} (h : zInv A) (c : Int32) (t : Int32) : zInv (sq_way A c t).2 := by
  unfold sq_way
  (repeat' split) <;> first | exact h | exact h.er
theorem sq_fits_inv {A : zM} (h : zInv A) (s : Int32) (f : Int32) : zInv (sq_fits A s f).2 := by
  unfold sq_fits
  (repeat' split) <;> first | exact h | exact h.er
theorem sq_odds_inv {A : zM} (h : zInv A) (t : Int32) : zInv (sq_odds A t).2 := by
  unfold sq_odds
  (repeat' split) <;> first | exact h | exact h.er
theorem sq_salts_inv {A : zM} (h : zInv A) (f : Int32) (c : Int32) (n : Int32) (w : Int32) : zInv (sq_salts A f c n w).2 := by
  unfold sq_salts
  (repeat' split) <;> first | exact h | exact h.er
theorem sq_seed_inv {A : zM} (h : zInv A) (v : Int32) : zInv (sq_seed A v).2 := by
  exact h.now (okN h.1 (by decide) rfl)
theorem sq_fence_inv {A : zM} (h : zInv A) (km : Int32) (hd : Int32) : zInv (sq_fence A km hd).2 := by
  unfold sq_fence
  by_cases h1 : zin km 0 69 = 0
  · rw [if_pos h1]; exact h.er
  rw [if_neg h1]
  by_cases h2 : zin hd 0 3 = 0
  · rw [if_pos h2]; exact h.er
  rw [if_neg h2]
  by_cases h3 : nI (sp_nf (A 83)) = 4
  · rw [if_pos h3]; exact h.er
  rw [if_neg h3]
  obtain ⟨hnf, hnf4⟩ := ok_nf2 h.1.1
  have hlt : sp_nf (A 83) < 4 := by
    rcases Nat.lt_or_ge (sp_nf (A 83)) 4 with q | q
    · exact q
    · exact absurd (by rw [show sp_nf (A 83) = 4 by omega]; rfl) h3
  refine h.now ?_
  refine okU (okU (okU (okU (okU (okU h.1 (by decide) (m := 4) rfl ⟨_, by omega, rfl⟩) (by omega) (zbd_f hlt (by decide)) (zle_km h1).1) (by omega) (zbd_f hlt (by decide)) (zle_km h1).2) (by omega) (zbd_f hlt (by decide)) (zle_in (n := 3) rfl (by decide) h2)) (by omega) (zbd_f hlt (by decide)) ⟨0, by decide, rfl⟩) (by omega) (zbd_f hlt (by decide)) ⟨0, by decide, rfl⟩
theorem sq_post_inv {A : zM} (h : zInv A) (f : Int32) (c : Int32) : zInv (sq_post A f c).2 := by
  unfold sq_post
  by_cases h1 : zin f 0 (A 83 2 - 1) = 0
  · rw [if_pos h1]; exact h.er
  rw [if_neg h1]
  by_cases h2 : zin c 0 63 = 0
  · rw [if_pos h2]; exact h.er
  rw [if_neg h2]
  by_cases h3 : nI (sp_np (A 83) (zn f)) = 8
  · rw [if_pos h3]; exact h.er
  rw [if_neg h3]
  obtain ⟨hf, hf4⟩ := fence_nat h.1.1 h1
  obtain ⟨hnp, hnp8⟩ := ok_np2 h.1.1 (i := zn f) (by omega)
  have hlt : sp_np (A 83) (zn f) < 8 := by
    rcases Nat.lt_or_ge (sp_np (A 83) (zn f)) 8 with q | q
    · exact q
    · exact absurd (by rw [show sp_np (A 83) (zn f) = 8 by omega]; rfl) h3
  refine h.now (okU (okU h.1 (by omega) (zbd_f (by omega) (by omega)) ?_) (by omega) (zbd_f (by omega) (by decide)) ⟨_, (show sp_np (A 83) (zn f) + 1 ≤ 8 by omega), rfl⟩)
  rw [zmax_c]; exact zle_in (n := 63) rfl (by decide) h2
theorem sq_become_inv {A : zM} (h : zInv A) (f : Int32) (km : Int32) : zInv (sq_become A f km).2 := by
  unfold sq_become
  by_cases h1 : zin f 0 (A 83 2 - 1) = 0
  · rw [if_pos h1]; exact h.er
  rw [if_neg h1]
  by_cases h2 : zin km 0 69 = 0
  · rw [if_pos h2]; exact h.er
  rw [if_neg h2]
  obtain ⟨hf, hf4⟩ := fence_nat h.1.1 h1
  exact h.now (okU (okU h.1 (by omega) (zbd_f (by omega) (by decide)) (zle_km h2).2) (by omega) (zbd_f (i := zn f) (j := 0) (by omega) (by decide)) (zle_km h2).1)
theorem sq_turn_inv {A : zM} (h : zInv A) (f : Int32) (hd : Int32) : zInv (sq_turn A f hd).2 := by
  unfold sq_turn
  by_cases h1 : zin f 0 (A 83 2 - 1) = 0
  · rw [if_pos h1]; exact h.er
  rw [if_neg h1]
  by_cases h2 : zin hd 0 3 = 0
  · rw [if_pos h2]; exact h.er
  rw [if_neg h2]
  obtain ⟨hf, hf4⟩ := fence_nat h.1.1 h1
  exact h.now (okU h.1 (by omega) (zbd_f (by omega) (by decide)) (zle_in (n := 3) rfl (by decide) h2))
theorem sq_cut_inv {A : zM} (h : zInv A) (f : Int32) : zInv (sq_cut A f).2 := by
  unfold sq_cut
  by_cases h1 : zin f 0 (A 83 2 - 1) = 0
  · rw [if_pos h1]; exact h.er
  rw [if_neg h1]
  by_cases h3 : nI (sp_np (A 83) (zn f)) = 0
  · rw [if_pos h3]; exact h.er
  rw [if_neg h3]
  obtain ⟨hf, hf4⟩ := fence_nat h.1.1 h1
  obtain ⟨hnp, hnp8⟩ := ok_np2 h.1.1 (i := zn f) (by omega)
  have hpos : 0 < sp_np (A 83) (zn f) := Nat.pos_of_ne_zero (fun q => h3 (by rw [q]; rfl))
  exact h.now (okU h.1 (by omega) (zbd_f (by omega) (by decide)) ⟨sp_np (A 83) (zn f) - 1, (show _ ≤ 8 by omega), zn_sub (a := sp_np (A 83) (zn f)) (b := 1) rfl rfl (by omega)⟩)
theorem sq_lay_inv {A : zM} (h : zInv A) (w : Int32) (c : Int32) (is : Int32) : zInv (sq_lay A w c is).2 := by
  unfold sq_lay
  by_cases h1 : zin w 0 1 = 0
  · rw [if_pos h1]; exact h.er
  rw [if_neg h1]
  by_cases h2 : zin c 0 63 = 0
  · rw [if_pos h2]; exact h.er
  rw [if_neg h2]
  by_cases h3 : zin is 0 1 = 0
  · rw [if_pos h3]; exact h.er
  rw [if_neg h3]
  have hc := lit_nat (n := 63) rfl (by decide) h2
  have hi := zle_in (n := 1) rfl (by decide) h3
  by_cases h4 : w = 0
  · rw [if_pos h4]; exact h.now (okU h.1 (by omega) (zbd_s (by omega)) hi)
  · rw [if_neg h4]
    refine h.now (okU h.1 (by omega) (m := 1) ?_ hi)
    have := zbd_s (i := 64 + zn c) (by omega)
    rw [← Nat.add_assoc] at this; exact this
theorem sq_cow_inv {A : zM} (h : zInv A) (c : Int32) : zInv (sq_cow A c).2 := by
  unfold sq_cow
  by_cases h1 : zin c 0 63 = 0
  · rw [if_pos h1]; exact h.er
  rw [if_neg h1]
  by_cases h2 : nI (sp_nc (A 83)) = 6
  · rw [if_pos h2]; exact h.er
  rw [if_neg h2]
  obtain ⟨hnc, hnc6⟩ := ok_nc2 h.1.1
  have hlt : sp_nc (A 83) < 6 := by
    rcases Nat.lt_or_ge (sp_nc (A 83)) 6 with q | q
    · exact q
    · exact absurd (by rw [show sp_nc (A 83) = 6 by omega]; rfl) h2
  exact h.now (okU (okU (okU h.1 (by decide) (m := 6) rfl ⟨_, by omega, rfl⟩) (by omega) (zbd_c hlt) (zle_in (n := 63) rfl (by decide) h1)) (by omega) (zbd_fat hlt) ⟨0, by decide, rfl⟩)
theorem sq_drive_inv {A : zM} (h : zInv A) (w : Int32) (c : Int32) : zInv (sq_drive A w c).2 := by
  unfold sq_drive
  by_cases h1 : zin w 0 (A 83 3 - 1) = 0
  · rw [if_pos h1]; exact h.er
  rw [if_neg h1]
  by_cases h2 : zin c 0 63 = 0
  · rw [if_pos h2]; exact h.er
  rw [if_neg h2]
  obtain ⟨hf, hf4⟩ := cow_nat h.1.1 h1
  exact h.now (okU h.1 (by omega) (zbd_c (by omega)) (zle_in (n := 63) rfl (by decide) h2))
theorem sq_dawns_inv {A : zM} (h : zInv A) (n : Int32) : zInv (sq_dawns A n).2 := by
  unfold sq_dawns
  by_cases h1 : zin n 1 60 = 0
  · rw [if_pos h1]; exact h.er
  rw [if_neg h1]
  by_cases h2 : 9999 < A 83 0 + n
  · rw [if_pos h2]; exact h.er
  rw [if_neg h2]
  exact h.now (okA_goesN h.1 _)
theorem sq_loose_inv {A : zM} (h : zInv A) (n : Int32) : zInv (sq_loose A n).2 := by
  unfold sq_loose
  by_cases h1 : zin n 1 20 = 0
  · rw [if_pos h1]; exact h.er
  rw [if_neg h1]
  by_cases h2 : 9999 < A 83 0 + n
  · rw [if_pos h2]; exact h.er
  rw [if_neg h2]
  exact h.now (okA_drawnN h.1 _)
theorem sq_tell_inv {A : zM} (h : zInv A) (v : Int32) : zInv (sq_tell A v).2 := by
  unfold sq_tell
  by_cases h1 : nI (sp_nw (A 83)) = 24
  · rw [if_pos h1]; exact h.er
  rw [if_neg h1]
  obtain ⟨hnw, hnw24⟩ := ok_nw2 h.1.1
  have hlt : sp_nw (A 83) < 24 := by
    rcases Nat.lt_or_ge (sp_nw (A 83)) 24 with q | q
    · exact q
    · exact absurd (by rw [show sp_nw (A 83) = 24 by omega]; rfl) h1
  exact h.now (okU (okN h.1 (by omega) (zbd_big (by omega))) (by decide) (m := 24) rfl ⟨_, by omega, rfl⟩)
theorem sq_check_inv {A : zM} (h : zInv A)  : zInv (sq_check A ).2 := by
  exact h.now (okU h.1 (by decide) (m := 24) rfl ⟨0, by decide, rfl⟩)
theorem sq_restore_inv {A : zM} (h : zInv A)  : zInv (sq_restore A ).2 := by
  unfold sq_restore
  by_cases h1 : A 82 3 = 0
  · rw [if_pos h1]; exact h.er
  rw [if_neg h1]
  exact h.now (h.2.1 h1)
theorem sq_image_inv {A : zM} (h : zInv A)  : zInv (sq_image A ).2 := by
  unfold sq_image
  obtain ⟨a, b, c, d⟩ := h
  refine ⟨?_, fun _ => ?_, fun s hs => ?_, ?_⟩
  · show zOkAll (zu (va_up A 84 (A 83)) 82 3 (A 82 3 + 1) 83)
    rw [zu_ne (by decide), va_up_ne _ _ (by decide)]; exact a
  · show zOkAll (zu (va_up A 84 (A 83)) 82 3 (A 82 3 + 1) 84)
    rw [zu_ne (by decide), va_up_self]; exact a
  · show zle (zu (va_up A 84 (A 83)) 82 3 (A 82 3 + 1) 88 s) 24
    rw [zu_ne (by decide), va_up_ne _ _ (by decide)]; exact c s hs
  · show zle (zu (va_up A 84 (A 83)) 82 3 (A 82 3 + 1) 82 18) 30
    rw [zu_at, upd_ne (by decide), va_up_ne _ _ (by decide)]; exact d
theorem and255 (x : Int64) : zle (x &&& 255).toInt32 255 := by
  have e : (x &&& 255).toInt32.toBitVec = ((x.toBitVec &&& 255#64).setWidth 32) := by
    apply BitVec.eq_of_getLsbD_eq
    intro i hi
    show ((x &&& 255).toBitVec.signExtend 32).getLsbD i = _
    rw [BitVec.getLsbD_signExtend, if_pos (show i < 64 by omega), decide_eq_true hi, BitVec.getLsbD_setWidth, decide_eq_true hi]
    rfl
  have hn : (x &&& 255).toInt32.toBitVec.toNat < 256 := by
    rw [e, BitVec.toNat_setWidth, BitVec.toNat_and]
    have : x.toBitVec.toNat &&& (255#64).toNat ≤ 255 := Nat.and_le_right
    omega
  refine ⟨(x &&& 255).toInt32.toBitVec.toNat, by omega, ?_⟩
  apply Int32.toBitVec_inj.mp
  apply BitVec.eq_of_toNat_eq
  rw [pk_tn (by omega)]
theorem okA_fd {ρ : Nat → Int32} {w : Int64} (h : zOkAll ρ) : ∀ k, sp_nt ρ + k ≤ 60 → zOkAll (sp_fd ρ w k)
  | 0, _ => h
  | k + 1, hk => by
    refine okU (okU (okA_fd h k (by omega)) (by omega) (zbd_t (by omega)) ?_) (by decide) (m := 60) rfl ⟨_, (show sp_nt ρ + k + 1 ≤ 60 by omega), rfl⟩
    exact and255 _
theorem sq_feed_inv {A : zM} (h : zInv A) (x : Int64) (n : Int32) : zInv (sq_feed A x n).2 := by
  unfold sq_feed
  by_cases h1 : zin n 1 8 = 0
  · rw [if_pos h1]; exact h.er
  rw [if_neg h1]
  by_cases h2 : 60 < nI (sp_nt (A 83) + zn n)
  · rw [if_pos h2]; exact h.er
  rw [if_neg h2]
  obtain ⟨hnt, hnt60⟩ := ok_nt2 h.1.1
  obtain ⟨k, l1, l8, e⟩ := zin_rng (lo := 1) (n := 8) rfl rfl (by decide) h1
  rw [e, zn_nI (by omega)] at h2 ⊢
  refine h.now (okA_fd h.1 k ?_)
  rcases Nat.lt_or_ge 60 (sp_nt (A 83) + k) with q | q
  · exact absurd (nI_lt (a := 60) q (by omega)) h2
  · exact q
theorem okA_law {ρ ρ1 : Nat → Int32} {u : Nat} (h : zOkAll ρ) (hu : u < 2) (hr : ∀ k, k < 282 + 121 * u ∨ 282 + 121 * u + 121 ≤ k → ρ1 k = ρ k) (hc : zCk ρ1 u) : zOkAll ρ1 := by
  have hR : zOkR ρ1 := fun k m hm => by
    have hk : k < 282 := by
      rcases Nat.lt_or_ge k 282 with q | q
      · exact q
      · rw [zbd_big (by omega)] at hm; cases hm
    rw [hr k (by omega)]; exact h.1 k m hm
  have ho : ∀ v, v < 2 → v ≠ u → zCk ρ1 v := fun v hv hne => by
    have hc0 := zOkAll_u h hv
    have e : ∀ j, j < 121 → ρ1 (282 + 121 * v + j) = ρ (282 + 121 * v + j) := fun j hj => hr _ (by omega)
    have eL : sp_len ρ1 v = sp_len ρ v := by unfold sp_len; rw [show ρ1 (282 + 121 * v) = ρ (282 + 121 * v) from e 0 (by decide)]
    obtain ⟨a, b, c⟩ := hc0
    refine ⟨by rw [eL, ← a]; exact e 0 (by decide), by rw [eL]; exact b, fun q => ?_⟩
    rw [eL] at q ⊢
    obtain ⟨dp, d0, ds, dl⟩ := c q
    have eA : ∀ k, k < 60 → sp_A ρ1 v k = sp_A ρ v k := fun k hk => by
      have := e (1 + k) (by omega); unfold sp_A; rw [← Nat.add_assoc] at this; exact this
    have eW : ∀ k, k < 60 → sp_W ρ1 v k = sp_W ρ v k := fun k hk => by
      have := e (61 + k) (by omega); unfold sp_W; rw [← Nat.add_assoc] at this; exact this
    exact ⟨dp, d0, fun k hk => by rw [eA k (by omega), eW k (by omega)]; exact ds k hk, dl⟩
  rcases (show u = 0 ∨ u = 1 by omega) with rfl | rfl
  · exact ⟨hR, hc, ho 1 (by decide) (by decide)⟩
  · exact ⟨hR, ho 0 (by decide) (by decide), hc⟩
theorem okA_un {ρ : Nat → Int32} {u : Nat} (h : zOkAll ρ) (hu : u < 2) : zOkAll (upd ρ (282 + 121 * u) 0) := by
  have e0 : sp_len (upd ρ (282 + 121 * u) 0) u = 0 := by unfold sp_len; rw [upd_self]; rfl
  exact okA_law h hu (fun k hk => upd_ne (by omega)) ⟨by rw [e0, upd_self]; rfl, by rw [e0]; decide, fun q => by rw [e0] at q; exact absurd q (Nat.lt_irrefl 0)⟩
theorem okA_lay {ρ : Nat → Int32} {u : Nat} {l : List (Int32 × Int32)} (h : zOkAll ρ) (hu : u < 2) (hl : l.length ≤ 60) (hs : zSeg 0 l 1) : zOkAll (sp_lay ρ u l) := by
  have e0 : sp_lay ρ u l (282 + 121 * u) = nI l.length := by
    unfold sp_lay
    rw [lay_ne _ hl (by omega), upd_self]
  have eL : sp_len (sp_lay ρ u l) u = l.length := by unfold sp_len; rw [e0, zn_nI (by omega)]
  refine okA_law h hu (lay_out hl) ⟨by rw [eL]; exact e0, by rw [eL]; exact hl, fun _ => ?_⟩
  rw [eL]
  obtain ⟨dp, d0, ds, dl⟩ := hs
  refine ⟨dp, d0, fun k hk => ?_, by rw [dl]; exact Nat.le_refl 1⟩
  have eA : sp_A (sp_lay ρ u l) u k = (l.getD k (0, 0)).1 := by unfold sp_A sp_lay; exact (lay_AW _ hl k hk).1
  have eW : sp_W (sp_lay ρ u l) u k = (l.getD k (0, 0)).2 := by unfold sp_W sp_lay; exact (lay_AW _ hl k hk).2
  rw [eA, eW]
  rcases ds k hk with q | q | q | q
  · exact Or.inl ⟨q.1, q.2.2⟩
  · exact Or.inr (Or.inl q)
  · exact Or.inr (Or.inr (Or.inl q))
  · have := sig_ne q.1
    exact Or.inr (Or.inr (Or.inr ⟨this.1, this.2.1, this.2.2.1, q.2.1, q.2.2⟩))
theorem sq_untell_inv {A : zM} (h : zInv A) (u : Int32) : zInv (sq_untell A u).2 := by
  unfold sq_untell
  by_cases h1 : zin u 0 1 = 0
  · rw [if_pos h1]; exact h.er
  rw [if_neg h1]
  have hu := lit_nat (n := 1) rfl (by decide) h1
  have key := okA_un h.1 (u := zn u) (by omega)
  split
  · exact h.now key
  · exact h.now key
theorem sq_text_inv {A : zM} (h : zInv A) (u : Int32) : zInv (sq_text A u).2 := by
  unfold sq_text
  by_cases h1 : zin u 0 1 = 0
  · rw [if_pos h1]; exact h.er
  rw [if_neg h1]
  have hu := lit_nat (n := 1) rfl (by decide) h1
  have h4 : zOkAll (upd (A 83) 4 0) := okU h.1 (by decide) (m := 60) rfl ⟨0, by decide, rfl⟩
  split
  · rename_i hg
    rw [Bool.and_eq_true] at hg
    have hinv := sp_ps_inv (lk := sp_lk (A 83)) (nm := sp_nm (zn u)) (T := sp_nt (A 83)) (fun h q => sp_lk_T h q) (sp_nm_m1 (zn u)) 1000 0 0 (true, 0, []) (Nat.zero_le _)
    have hlen : (sp_rd (A 83) (zn u)).2.2.length + 0 ≤ 0 + (sp_rd (A 83) (zn u)).2.1 := (hinv.2.2 hg.1).2
    have hT : (sp_rd (A 83) (zn u)).2.1 ≤ sp_nt (A 83) := hinv.2.1
    have h60 := (ok_nt2 h.1.1).2
    obtain ⟨seg, e1, e2, -⟩ := sp_ps_seg (lk := sp_lk (A 83)) (nm := sp_nm (zn u)) (fun b q => nm_le q) 1000 0 0 (true, 0, []) (by decide) hg.1
    have e1 : (sp_rd (A 83) (zn u)).2.2 = seg := e1
    refine h.now (okA_lay h4 (by omega) (by omega) ?_)
    rw [e1]; exact e2 (by decide) 0
  · exact h.now h4
theorem okA_sets {C : Nat → Int32} {s f : Nat} (hf : f < 4) : ∀ n k (ρ : Nat → Int32), k + n ≤ 8 → zOkAll ρ → zOkAll (sp_sets C s f n k ρ).2 ∧ (sp_sets C s f n k ρ).1 ≤ k + n
  | 0, k, ρ, _, h => ⟨h, Nat.le_refl _⟩
  | n + 1, k, ρ, hk, h => by
    unfold sp_sets
    split
    · exact ⟨h, by show k ≤ _; omega⟩
    · rename_i q
      obtain ⟨a, b⟩ := okA_sets hf n (k + 1) (upd ρ (6 + 13 * f + (5 + k)) (C (24 * s + k))) (by omega) (okU h (by omega) (zbd_f hf (by omega)) (by rw [zmax_c]; exact zle_in (n := 63) rfl (by decide) q))
      exact ⟨a, by omega⟩
theorem sq_sets_inv {A : zM} (h : zInv A) (f : Int32) (s : Int32) : zInv (sq_sets A f s).2 := by
  unfold sq_sets
  by_cases h1 : zin f 0 (A 83 2 - 1) = 0
  · rw [if_pos h1]; exact h.er
  rw [if_neg h1]
  by_cases h2 : zin s 0 3 = 0
  · rw [if_pos h2]; exact h.er
  rw [if_neg h2]
  by_cases h3 : A 87 (zn s) = 0
  · rw [if_pos h3]; exact h.er
  rw [if_neg h3]
  obtain ⟨hf, hf4⟩ := fence_nat h.1.1 h1
  obtain ⟨k1, k2⟩ := okA_sets (C := A 89) (s := zn s) (f := zn f) (by omega) (min (sh_n A (zn s)) 8) 0 (A 83) (by omega) h.1
  exact h.now (okU k1 (by omega) (zbd_f (by omega) (by decide)) ⟨_, (show _ ≤ 8 by omega), rfl⟩)
theorem zInv.sh {A A1 : zM} (h : zInv A) (h82 : A1 82 = A 82) (h83 : A1 83 = A 83) (h84 : A1 84 = A 84) (h88 : zShOk A1) : zInv A1 := by
  obtain ⟨a, b, c, d⟩ := h
  exact ⟨by rw [h83]; exact a, fun q => by rw [h82] at q; rw [h84]; exact b q, h88, by unfold zTrOk; rw [h82]; exact d⟩
theorem sh_up {A : zM} {s : Nat} {n b : Int32} {C : Nat → Int32} (h : zInv A) (hn : zle n 24) : zInv (va_up (va_up (va_up A 87 (upd (A 87) s b)) 88 (upd (A 88) s n)) 89 C) := by
  refine h.sh ?_ ?_ ?_ (fun t ht => ?_)
  · rw [va_up_ne _ _ (by decide), va_up_ne _ _ (by decide), va_up_ne _ _ (by decide)]
  · rw [va_up_ne _ _ (by decide), va_up_ne _ _ (by decide), va_up_ne _ _ (by decide)]
  · rw [va_up_ne _ _ (by decide), va_up_ne _ _ (by decide), va_up_ne _ _ (by decide)]
  · rw [va_up_ne _ _ (by decide), va_up_self]
    unfold upd
    split
    · exact hn
    · exact h.2.2.1 t ht
theorem zle_n {n : Int32} (h1 : ¬ n < 0) (h2 : ¬ 24 < n) : zle n 24 := by
  have a := zi_nlt h1
  have b := zi_nlt h2
  have e0 : (0 : Int32).toInt = 0 := rfl
  have e1 : (24 : Int32).toInt = 24 := rfl
  exact zle_of (by omega) (by omega) (by decide)
theorem sq_sheet_inv {A : zM} (h : zInv A) (s : Int32) (b : Int32) (n : Int32) : zInv (sq_sheet A s b n).2 := by
  unfold sq_sheet
  by_cases h1 : zin s 0 3 = 0
  · rw [if_pos h1]; exact h.er
  rw [if_neg h1]
  by_cases h2 : b = 0
  · rw [if_pos h2]; exact sh_up h ⟨0, by decide, rfl⟩
  rw [if_neg h2]
  by_cases h3 : n < 0
  · simp only [if_pos h3]
    (repeat' split) <;> exact h.er
  by_cases h4 : 24 < n
  · simp only [if_neg h3, if_pos h4]
    (repeat' split) <;> exact h.er
  simp only [if_neg h3, if_neg h4]
  have hz := zle_n h3 h4
  by_cases k8 : b = 8
  · rw [if_pos k8]; exact sh_up h hz
  rw [if_neg k8]
  by_cases k16 : b = 16
  · rw [if_pos k16]; exact sh_up h hz
  rw [if_neg k16]
  by_cases k32 : b = 32
  · rw [if_pos k32]; exact sh_up h hz
  rw [if_neg k32]; exact h.er
theorem sh_89 {A : zM} {C : Nat → Int32} (h : zInv A) : zInv (va_up A 89 C) :=
  h.sh (va_up_ne _ _ (by decide)) (va_up_ne _ _ (by decide)) (va_up_ne _ _ (by decide)) (fun t ht => by rw [va_up_ne _ _ (by decide)]; exact h.2.2.1 t ht)
theorem sq_put_inv {A : zM} (h : zInv A) (s : Int32) (i : Int32) (v : Int32) : zInv (sq_put A s i v).2 := by
  unfold sq_put
  (repeat' split)
  all_goals first | exact h.er | exact sh_89 h
theorem sq_move_inv {A : zM} (h : zInv A) (s : Int32) (i : Int32) (u : Int32) (j : Int32) (n : Int32) : zInv (sq_move A s i u j n).2 := by
  unfold sq_move
  (repeat' split)
  all_goals first | exact h.er | exact sh_89 h
theorem sq_voice_inv {A : zM} (h : zInv A) (f : Int32) (v : Int32) (x : Int32) : zInv (sq_voice A f v x).2 := by
  unfold sq_voice
  have l1 := fun K t => Nat.le_trans (vs_s_len K t x) (show 3 ≤ 30 by decide)
  have l2 := fun K m t => Nat.le_trans (vs_l_len K m t x) (show 6 ≤ 30 by decide)
  have l3 := fun K m t => Nat.le_trans (vs_r_len K m t x) (show 8 ≤ 30 by decide)
  have l4 := fun K m t => Nat.le_trans (vs_p_len K m t x) (show 8 ≤ 30 by decide)
  (repeat' split)
  all_goals first | exact h.er | exact h.vo (l1 _ _) | exact h.vo (l2 _ _ _) | exact h.vo (l3 _ _ _) | exact (h.vo (l4 _ _ _)).er | exact h.vo (l4 _ _ _)
