/-! the class and the reference after a call each -/
def zS (M : zM) (N : zN) : Prop := zRl M N M ∧ zInv M
theorem zS.q {M1 M2 A1 : zM} {N1 : zN} (h : zRl M1 N1 A1) (hi : zInv A1) (hq : zQ (mg M1 A1) M2) : zS M2 N1 := by
  have lo : ∀ j, j < 82 → M2 j = M1 j := fun j hj => (hq.1 j (by omega) (by omega) (by omega) (by omega) (by omega) (by omega)).trans (mg_lo hj)
  have up : ∀ j, 82 ≤ j → j ≠ 82 → j ≠ 85 → j ≠ 90 → j ≠ 91 → j ≠ 92 → j ≠ 93 → M2 j = A1 j := fun j a b c d e f g => (hq.1 j b c d e f g).trans (mg_hi a)
  have e3 : M2 82 3 = A1 82 3 := hq.2.1.trans (by rw [mg_hi (by decide)])
  have e18 : M2 82 18 = A1 82 18 := hq.2.2.trans (by rw [mg_hi (by decide)])
  have u83 : M2 83 = A1 83 := up 83 (by decide) (by decide) (by decide) (by decide) (by decide) (by decide) (by decide)
  have u84 : M2 84 = A1 84 := up 84 (by decide) (by decide) (by decide) (by decide) (by decide) (by decide) (by decide)
  have u86 : M2 86 = A1 86 := up 86 (by decide) (by decide) (by decide) (by decide) (by decide) (by decide) (by decide)
  have u87 : M2 87 = A1 87 := up 87 (by decide) (by decide) (by decide) (by decide) (by decide) (by decide) (by decide)
  have u88 : M2 88 = A1 88 := up 88 (by decide) (by decide) (by decide) (by decide) (by decide) (by decide) (by decide)
  have u89 : M2 89 = A1 89 := up 89 (by decide) (by decide) (by decide) (by decide) (by decide) (by decide) (by decide)
  have u94 : M2 94 = A1 94 := up 94 (by decide) (by decide) (by decide) (by decide) (by decide) (by decide) (by decide)
  obtain ⟨i1, i2, i3, i4⟩ := hi
  obtain ⟨a, b, c, d, e, f, g⟩ := h
  refine ⟨⟨?_, fun q => ?_, fun u hu => ?_, fun j hj => ?_, ?_, ⟨?_, fun j hj => ?_⟩, fun s hs => ⟨?_, ?_, fun k hk => ?_⟩⟩, ?_, fun q => ?_, fun s hs => ?_, ?_⟩
  · rw [u83]; exact a.fr (fun j _ hj => lo j (by omega)) (fun _ _ _ => rfl)
  · rw [e3] at q; rw [u84]; exact (b q).fr (fun j _ hj => lo j (by omega)) (fun _ _ _ => rfl)
  · rw [lo _ (by omega), lo _ (by omega)]; exact c u hu
  · rw [lo _ (by omega), u86]; exact d j hj
  · rw [lo _ (by omega), e3]; exact e
  · rw [lo _ (by omega), e18]; exact f.1
  · rw [lo _ (by omega), u94]; exact f.2 j hj
  · rw [lo _ (by omega), u88]; exact (g s hs).1
  · rw [lo _ (by omega), u87]; exact (g s hs).2.1
  · rw [lo _ (by omega), u89]; exact (g s hs).2.2 k hk
  · rw [u83]; exact i1
  · rw [e3] at q; rw [u84]; exact i2 q
  · rw [u88]; exact i3 s hs
  · unfold zTrOk; rw [e18]; exact i4
theorem ek_fence {M M1 : zM} (h : zHi M M1) (km : Int32) (hd : Int32) : sq_fence M1 km hd = ((sq_fence M km hd).1, mg M1 (sq_fence M km hd).2) := by
  have e := sq_fence_mg M1 M km hd
  rw [← mg_of h] at e; exact e
theorem tk_fence {M M1 M2 : zM} {N N1 : zN} (km : Int32) (hd : Int32) (h : zS M N) (hh : zHi M M1) (hr : zRl M1 N1 (sq_fence M km hd).2) (hq : zQ (sq_fence M1 km hd).2 M2) : zS M2 N1 :=
  zS.q hr (sq_fence_inv h.2 km hd) (by rw [ek_fence hh] at hq; exact hq)
theorem ek_post {M M1 : zM} (h : zHi M M1) (f : Int32) (c : Int32) : sq_post M1 f c = ((sq_post M f c).1, mg M1 (sq_post M f c).2) := by
  have e := sq_post_mg M1 M f c
  rw [← mg_of h] at e; exact e
theorem tk_post {M M1 M2 : zM} {N N1 : zN} (f : Int32) (c : Int32) (h : zS M N) (hh : zHi M M1) (hr : zRl M1 N1 (sq_post M f c).2) (hq : zQ (sq_post M1 f c).2 M2) : zS M2 N1 :=
  zS.q hr (sq_post_inv h.2 f c) (by rw [ek_post hh] at hq; exact hq)
theorem ek_fenceIs {M M1 : zM} (h : zHi M M1) (f : Int32) (w : Int32) : sq_fenceIs M1 f w = ((sq_fenceIs M f w).1, mg M1 (sq_fenceIs M f w).2) := by
  have e := sq_fenceIs_mg M1 M f w
  rw [← mg_of h] at e; exact e
theorem tk_fenceIs {M M1 M2 : zM} {N N1 : zN} (f : Int32) (w : Int32) (h : zS M N) (hh : zHi M M1) (hr : zRl M1 N1 (sq_fenceIs M f w).2) (hq : zQ (sq_fenceIs M1 f w).2 M2) : zS M2 N1 :=
  zS.q hr (sq_fenceIs_inv h.2 f w) (by rw [ek_fenceIs hh] at hq; exact hq)
theorem ek_at {M M1 : zM} (h : zHi M M1) (f : Int32) (p : Int32) : sq_at M1 f p = ((sq_at M f p).1, mg M1 (sq_at M f p).2) := by
  have e := sq_at_mg M1 M f p
  rw [← mg_of h] at e; exact e
theorem tk_at {M M1 M2 : zM} {N N1 : zN} (f : Int32) (p : Int32) (h : zS M N) (hh : zHi M M1) (hr : zRl M1 N1 (sq_at M f p).2) (hq : zQ (sq_at M1 f p).2 M2) : zS M2 N1 :=
  zS.q hr (sq_at_inv h.2 f p) (by rw [ek_at hh] at hq; exact hq)
theorem ek_heads {M M1 : zM} (h : zHi M M1) (f : Int32) (p : Int32) : sq_heads M1 f p = ((sq_heads M f p).1, mg M1 (sq_heads M f p).2) := by
  have e := sq_heads_mg M1 M f p
  rw [← mg_of h] at e; exact e
theorem tk_heads {M M1 M2 : zM} {N N1 : zN} (f : Int32) (p : Int32) (h : zS M N) (hh : zHi M M1) (hr : zRl M1 N1 (sq_heads M f p).2) (hq : zQ (sq_heads M1 f p).2 M2) : zS M2 N1 :=
  zS.q hr (sq_heads_inv h.2 f p) (by rw [ek_heads hh] at hq; exact hq)
theorem ek_become {M M1 : zM} (h : zHi M M1) (f : Int32) (km : Int32) : sq_become M1 f km = ((sq_become M f km).1, mg M1 (sq_become M f km).2) := by
  have e := sq_become_mg M1 M f km
  rw [← mg_of h] at e; exact e
theorem tk_become {M M1 M2 : zM} {N N1 : zN} (f : Int32) (km : Int32) (h : zS M N) (hh : zHi M M1) (hr : zRl M1 N1 (sq_become M f km).2) (hq : zQ (sq_become M1 f km).2 M2) : zS M2 N1 :=
  zS.q hr (sq_become_inv h.2 f km) (by rw [ek_become hh] at hq; exact hq)
theorem ek_as {M M1 : zM} (h : zHi M M1) (f : Int32) (kd : Int32) : sq_as M1 f kd = ((sq_as M f kd).1, mg M1 (sq_as M f kd).2) := by
  have e := sq_as_mg M1 M f kd
  rw [← mg_of h] at e; exact e
theorem tk_as {M M1 M2 : zM} {N N1 : zN} (f : Int32) (kd : Int32) (h : zS M N) (hh : zHi M M1) (hr : zRl M1 N1 (sq_as M f kd).2) (hq : zQ (sq_as M1 f kd).2 M2) : zS M2 N1 :=
  zS.q hr (sq_as_inv h.2 f kd) (by rw [ek_as hh] at hq; exact hq)
theorem ek_turn {M M1 : zM} (h : zHi M M1) (f : Int32) (hd : Int32) : sq_turn M1 f hd = ((sq_turn M f hd).1, mg M1 (sq_turn M f hd).2) := by
  have e := sq_turn_mg M1 M f hd
  rw [← mg_of h] at e; exact e
theorem tk_turn {M M1 M2 : zM} {N N1 : zN} (f : Int32) (hd : Int32) (h : zS M N) (hh : zHi M M1) (hr : zRl M1 N1 (sq_turn M f hd).2) (hq : zQ (sq_turn M1 f hd).2 M2) : zS M2 N1 :=
  zS.q hr (sq_turn_inv h.2 f hd) (by rw [ek_turn hh] at hq; exact hq)
theorem ek_cut {M M1 : zM} (h : zHi M M1) (f : Int32) : sq_cut M1 f = ((sq_cut M f).1, mg M1 (sq_cut M f).2) := by
  have e := sq_cut_mg M1 M f
  rw [← mg_of h] at e; exact e
theorem tk_cut {M M1 M2 : zM} {N N1 : zN} (f : Int32) (h : zS M N) (hh : zHi M M1) (hr : zRl M1 N1 (sq_cut M f).2) (hq : zQ (sq_cut M1 f).2 M2) : zS M2 N1 :=
  zS.q hr (sq_cut_inv h.2 f) (by rw [ek_cut hh] at hq; exact hq)
theorem ek_lay {M M1 : zM} (h : zHi M M1) (w : Int32) (c : Int32) (is : Int32) : sq_lay M1 w c is = ((sq_lay M w c is).1, mg M1 (sq_lay M w c is).2) := by
  have e := sq_lay_mg M1 M w c is
  rw [← mg_of h] at e; exact e
theorem tk_lay {M M1 M2 : zM} {N N1 : zN} (w : Int32) (c : Int32) (is : Int32) (h : zS M N) (hh : zHi M M1) (hr : zRl M1 N1 (sq_lay M w c is).2) (hq : zQ (sq_lay M1 w c is).2 M2) : zS M2 N1 :=
  zS.q hr (sq_lay_inv h.2 w c is) (by rw [ek_lay hh] at hq; exact hq)
theorem ek_cow {M M1 : zM} (h : zHi M M1) (c : Int32) : sq_cow M1 c = ((sq_cow M c).1, mg M1 (sq_cow M c).2) := by
  have e := sq_cow_mg M1 M c
  rw [← mg_of h] at e; exact e
theorem tk_cow {M M1 M2 : zM} {N N1 : zN} (c : Int32) (h : zS M N) (hh : zHi M M1) (hr : zRl M1 N1 (sq_cow M c).2) (hq : zQ (sq_cow M1 c).2 M2) : zS M2 N1 :=
  zS.q hr (sq_cow_inv h.2 c) (by rw [ek_cow hh] at hq; exact hq)
theorem ek_cowIs {M M1 : zM} (h : zHi M M1) (c : Int32) (w : Int32) : sq_cowIs M1 c w = ((sq_cowIs M c w).1, mg M1 (sq_cowIs M c w).2) := by
  have e := sq_cowIs_mg M1 M c w
  rw [← mg_of h] at e; exact e
theorem tk_cowIs {M M1 M2 : zM} {N N1 : zN} (c : Int32) (w : Int32) (h : zS M N) (hh : zHi M M1) (hr : zRl M1 N1 (sq_cowIs M c w).2) (hq : zQ (sq_cowIs M1 c w).2 M2) : zS M2 N1 :=
  zS.q hr (sq_cowIs_inv h.2 c w) (by rw [ek_cowIs hh] at hq; exact hq)
theorem ek_drive {M M1 : zM} (h : zHi M M1) (w : Int32) (c : Int32) : sq_drive M1 w c = ((sq_drive M w c).1, mg M1 (sq_drive M w c).2) := by
  have e := sq_drive_mg M1 M w c
  rw [← mg_of h] at e; exact e
theorem tk_drive {M M1 M2 : zM} {N N1 : zN} (w : Int32) (c : Int32) (h : zS M N) (hh : zHi M M1) (hr : zRl M1 N1 (sq_drive M w c).2) (hq : zQ (sq_drive M1 w c).2 M2) : zS M2 N1 :=
  zS.q hr (sq_drive_inv h.2 w c) (by rw [ek_drive hh] at hq; exact hq)
theorem ek_feed {M M1 : zM} (h : zHi M M1) (x : Int64) (n : Int32) : sq_feed M1 x n = ((sq_feed M x n).1, mg M1 (sq_feed M x n).2) := by
  have e := sq_feed_mg M1 M x n
  rw [← mg_of h] at e; exact e
theorem tk_feed {M M1 M2 : zM} {N N1 : zN} (x : Int64) (n : Int32) (h : zS M N) (hh : zHi M M1) (hr : zRl M1 N1 (sq_feed M x n).2) (hq : zQ (sq_feed M1 x n).2 M2) : zS M2 N1 :=
  zS.q hr (sq_feed_inv h.2 x n) (by rw [ek_feed hh] at hq; exact hq)
theorem ek_text {M M1 : zM} (h : zHi M M1) (u : Int32) : sq_text M1 u = ((sq_text M u).1, mg M1 (sq_text M u).2) := by
  have e := sq_text_mg M1 M u
  rw [← mg_of h] at e; exact e
theorem tk_text {M M1 M2 : zM} {N N1 : zN} (u : Int32) (h : zS M N) (hh : zHi M M1) (hr : zRl M1 N1 (sq_text M u).2) (hq : zQ (sq_text M1 u).2 M2) : zS M2 N1 :=
  zS.q hr (sq_text_inv h.2 u) (by rw [ek_text hh] at hq; exact hq)
theorem ek_untell {M M1 : zM} (h : zHi M M1) (u : Int32) : sq_untell M1 u = ((sq_untell M u).1, mg M1 (sq_untell M u).2) := by
  have e := sq_untell_mg M1 M u
  rw [← mg_of h] at e; exact e
theorem tk_untell {M M1 M2 : zM} {N N1 : zN} (u : Int32) (h : zS M N) (hh : zHi M M1) (hr : zRl M1 N1 (sq_untell M u).2) (hq : zQ (sq_untell M1 u).2 M2) : zS M2 N1 :=
  zS.q hr (sq_untell_inv h.2 u) (by rw [ek_untell hh] at hq; exact hq)
theorem ek_law {M M1 : zM} (h : zHi M M1) (u : Int32) (a : Int32) (b : Int32) (c : Int32) : sq_law M1 u a b c = ((sq_law M u a b c).1, mg M1 (sq_law M u a b c).2) := by
  have e := sq_law_mg M1 M u a b c
  rw [← mg_of h] at e; exact e
theorem tk_law {M M1 M2 : zM} {N N1 : zN} (u : Int32) (a : Int32) (b : Int32) (c : Int32) (h : zS M N) (hh : zHi M M1) (hr : zRl M1 N1 (sq_law M u a b c).2) (hq : zQ (sq_law M1 u a b c).2 M2) : zS M2 N1 :=
  zS.q hr (sq_law_inv h.2 u a b c) (by rw [ek_law hh] at hq; exact hq)
theorem ek_dawns {M M1 : zM} (h : zHi M M1) (n : Int32) : sq_dawns M1 n = ((sq_dawns M n).1, mg M1 (sq_dawns M n).2) := by
  have e := sq_dawns_mg M1 M n
  rw [← mg_of h] at e; exact e
theorem tk_dawns {M M1 M2 : zM} {N N1 : zN} (n : Int32) (h : zS M N) (hh : zHi M M1) (hr : zRl M1 N1 (sq_dawns M n).2) (hq : zQ (sq_dawns M1 n).2 M2) : zS M2 N1 :=
  zS.q hr (sq_dawns_inv h.2 n) (by rw [ek_dawns hh] at hq; exact hq)
theorem ek_loose {M M1 : zM} (h : zHi M M1) (n : Int32) : sq_loose M1 n = ((sq_loose M n).1, mg M1 (sq_loose M n).2) := by
  have e := sq_loose_mg M1 M n
  rw [← mg_of h] at e; exact e
theorem tk_loose {M M1 M2 : zM} {N N1 : zN} (n : Int32) (h : zS M N) (hh : zHi M M1) (hr : zRl M1 N1 (sq_loose M n).2) (hq : zQ (sq_loose M1 n).2 M2) : zS M2 N1 :=
  zS.q hr (sq_loose_inv h.2 n) (by rw [ek_loose hh] at hq; exact hq)
theorem ek_seed {M M1 : zM} (h : zHi M M1) (v : Int32) : sq_seed M1 v = ((sq_seed M v).1, mg M1 (sq_seed M v).2) := by
  have e := sq_seed_mg M1 M v
  rw [← mg_of h] at e; exact e
theorem tk_seed {M M1 M2 : zM} {N N1 : zN} (v : Int32) (h : zS M N) (hh : zHi M M1) (hr : zRl M1 N1 (sq_seed M v).2) (hq : zQ (sq_seed M1 v).2 M2) : zS M2 N1 :=
  zS.q hr (sq_seed_inv h.2 v) (by rw [ek_seed hh] at hq; exact hq)
theorem ek_land {M M1 : zM} (h : zHi M M1) (f : Int32) (w : Int32) : sq_land M1 f w = ((sq_land M f w).1, mg M1 (sq_land M f w).2) := by
  have e := sq_land_mg M1 M f w
  rw [← mg_of h] at e; exact e
theorem tk_land {M M1 M2 : zM} {N N1 : zN} (f : Int32) (w : Int32) (h : zS M N) (hh : zHi M M1) (hr : zRl M1 N1 (sq_land M f w).2) (hq : zQ (sq_land M1 f w).2 M2) : zS M2 N1 :=
  zS.q hr (sq_land_inv h.2 f w) (by rw [ek_land hh] at hq; exact hq)
theorem ek_then {M M1 : zM} (h : zHi M M1) (f : Int32) (n : Int32) (w : Int32) : sq_then M1 f n w = ((sq_then M f n w).1, mg M1 (sq_then M f n w).2) := by
  have e := sq_then_mg M1 M f n w
  rw [← mg_of h] at e; exact e
theorem tk_then {M M1 M2 : zM} {N N1 : zN} (f : Int32) (n : Int32) (w : Int32) (h : zS M N) (hh : zHi M M1) (hr : zRl M1 N1 (sq_then M f n w).2) (hq : zQ (sq_then M1 f n w).2 M2) : zS M2 N1 :=
  zS.q hr (sq_then_inv h.2 f n w) (by rw [ek_then hh] at hq; exact hq)
theorem ek_first {M M1 : zM} (h : zHi M M1) (c : Int32) (w : Int32) : sq_first M1 c w = ((sq_first M c w).1, mg M1 (sq_first M c w).2) := by
  have e := sq_first_mg M1 M c w
  rw [← mg_of h] at e; exact e
theorem tk_first {M M1 M2 : zM} {N N1 : zN} (c : Int32) (w : Int32) (h : zS M N) (hh : zHi M M1) (hr : zRl M1 N1 (sq_first M c w).2) (hq : zQ (sq_first M1 c w).2 M2) : zS M2 N1 :=
  zS.q hr (sq_first_inv h.2 c w) (by rw [ek_first hh] at hq; exact hq)
theorem ek_salts {M M1 : zM} (h : zHi M M1) (f : Int32) (c : Int32) (n : Int32) (w : Int32) : sq_salts M1 f c n w = ((sq_salts M f c n w).1, mg M1 (sq_salts M f c n w).2) := by
  have e := sq_salts_mg M1 M f c n w
  rw [← mg_of h] at e; exact e
theorem tk_salts {M M1 M2 : zM} {N N1 : zN} (f : Int32) (c : Int32) (n : Int32) (w : Int32) (h : zS M N) (hh : zHi M M1) (hr : zRl M1 N1 (sq_salts M f c n w).2) (hq : zQ (sq_salts M1 f c n w).2 M2) : zS M2 N1 :=
  zS.q hr (sq_salts_inv h.2 f c n w) (by rw [ek_salts hh] at hq; exact hq)
theorem ek_way {M M1 : zM} (h : zHi M M1) (c : Int32) (t : Int32) : sq_way M1 c t = ((sq_way M c t).1, mg M1 (sq_way M c t).2) := by
  have e := sq_way_mg M1 M c t
  rw [← mg_of h] at e; exact e
theorem tk_way {M M1 M2 : zM} {N N1 : zN} (c : Int32) (t : Int32) (h : zS M N) (hh : zHi M M1) (hr : zRl M1 N1 (sq_way M c t).2) (hq : zQ (sq_way M1 c t).2 M2) : zS M2 N1 :=
  zS.q hr (sq_way_inv h.2 c t) (by rw [ek_way hh] at hq; exact hq)
theorem ek_odds {M M1 : zM} (h : zHi M M1) (t : Int32) : sq_odds M1 t = ((sq_odds M t).1, mg M1 (sq_odds M t).2) := by
  have e := sq_odds_mg M1 M t
  rw [← mg_of h] at e; exact e
theorem tk_odds {M M1 M2 : zM} {N N1 : zN} (t : Int32) (h : zS M N) (hh : zHi M M1) (hr : zRl M1 N1 (sq_odds M t).2) (hq : zQ (sq_odds M1 t).2 M2) : zS M2 N1 :=
  zS.q hr (sq_odds_inv h.2 t) (by rw [ek_odds hh] at hq; exact hq)
theorem ek_fits {M M1 : zM} (h : zHi M M1) (s : Int32) (f : Int32) : sq_fits M1 s f = ((sq_fits M s f).1, mg M1 (sq_fits M s f).2) := by
  have e := sq_fits_mg M1 M s f
  rw [← mg_of h] at e; exact e
theorem tk_fits {M M1 M2 : zM} {N N1 : zN} (s : Int32) (f : Int32) (h : zS M N) (hh : zHi M M1) (hr : zRl M1 N1 (sq_fits M s f).2) (hq : zQ (sq_fits M1 s f).2 M2) : zS M2 N1 :=
  zS.q hr (sq_fits_inv h.2 s f) (by rw [ek_fits hh] at hq; exact hq)
theorem ek_voice {M M1 : zM} (h : zHi M M1) (f : Int32) (v : Int32) (x : Int32) : sq_voice M1 f v x = ((sq_voice M f v x).1, mg M1 (sq_voice M f v x).2) := by
  have e := sq_voice_mg M1 M f v x
  rw [← mg_of h] at e; exact e
theorem tk_voice {M M1 M2 : zM} {N N1 : zN} (f : Int32) (v : Int32) (x : Int32) (h : zS M N) (hh : zHi M M1) (hr : zRl M1 N1 (sq_voice M f v x).2) (hq : zQ (sq_voice M1 f v x).2 M2) : zS M2 N1 :=
  zS.q hr (sq_voice_inv h.2 f v x) (by rw [ek_voice hh] at hq; exact hq)
theorem ek_body {M M1 : zM} (h : zHi M M1) (i : Int32) : sq_body M1 i = ((sq_body M i).1, mg M1 (sq_body M i).2) := by
  have e := sq_body_mg M1 M i
  rw [← mg_of h] at e; exact e
theorem tk_body {M M1 M2 : zM} {N N1 : zN} (i : Int32) (h : zS M N) (hh : zHi M M1) (hr : zRl M1 N1 (sq_body M i).2) (hq : zQ (sq_body M1 i).2 M2) : zS M2 N1 :=
  zS.q hr (sq_body_inv h.2 i) (by rw [ek_body hh] at hq; exact hq)
theorem ek_sheet {M M1 : zM} (h : zHi M M1) (s : Int32) (b : Int32) (n : Int32) : sq_sheet M1 s b n = ((sq_sheet M s b n).1, mg M1 (sq_sheet M s b n).2) := by
  have e := sq_sheet_mg M1 M s b n
  rw [← mg_of h] at e; exact e
theorem tk_sheet {M M1 M2 : zM} {N N1 : zN} (s : Int32) (b : Int32) (n : Int32) (h : zS M N) (hh : zHi M M1) (hr : zRl M1 N1 (sq_sheet M s b n).2) (hq : zQ (sq_sheet M1 s b n).2 M2) : zS M2 N1 :=
  zS.q hr (sq_sheet_inv h.2 s b n) (by rw [ek_sheet hh] at hq; exact hq)
theorem ek_put {M M1 : zM} (h : zHi M M1) (s : Int32) (i : Int32) (v : Int32) : sq_put M1 s i v = ((sq_put M s i v).1, mg M1 (sq_put M s i v).2) := by
  have e := sq_put_mg M1 M s i v
  rw [← mg_of h] at e; exact e
theorem tk_put {M M1 M2 : zM} {N N1 : zN} (s : Int32) (i : Int32) (v : Int32) (h : zS M N) (hh : zHi M M1) (hr : zRl M1 N1 (sq_put M s i v).2) (hq : zQ (sq_put M1 s i v).2 M2) : zS M2 N1 :=
  zS.q hr (sq_put_inv h.2 s i v) (by rw [ek_put hh] at hq; exact hq)
theorem ek_move {M M1 : zM} (h : zHi M M1) (s : Int32) (i : Int32) (u : Int32) (j : Int32) (n : Int32) : sq_move M1 s i u j n = ((sq_move M s i u j n).1, mg M1 (sq_move M s i u j n).2) := by
  have e := sq_move_mg M1 M s i u j n
  rw [← mg_of h] at e; exact e
theorem tk_move {M M1 M2 : zM} {N N1 : zN} (s : Int32) (i : Int32) (u : Int32) (j : Int32) (n : Int32) (h : zS M N) (hh : zHi M M1) (hr : zRl M1 N1 (sq_move M s i u j n).2) (hq : zQ (sq_move M1 s i u j n).2 M2) : zS M2 N1 :=
  zS.q hr (sq_move_inv h.2 s i u j n) (by rw [ek_move hh] at hq; exact hq)
theorem ek_sets {M M1 : zM} (h : zHi M M1) (f : Int32) (s : Int32) : sq_sets M1 f s = ((sq_sets M f s).1, mg M1 (sq_sets M f s).2) := by
  have e := sq_sets_mg M1 M f s
  rw [← mg_of h] at e; exact e
theorem tk_sets {M M1 M2 : zM} {N N1 : zN} (f : Int32) (s : Int32) (h : zS M N) (hh : zHi M M1) (hr : zRl M1 N1 (sq_sets M f s).2) (hq : zQ (sq_sets M1 f s).2 M2) : zS M2 N1 :=
  zS.q hr (sq_sets_inv h.2 f s) (by rw [ek_sets hh] at hq; exact hq)
theorem ek_judge {M M1 : zM} (h : zHi M M1) (s : Int32) : sq_judge M1 s = ((sq_judge M s).1, mg M1 (sq_judge M s).2) := by
  have e := sq_judge_mg M1 M s
  rw [← mg_of h] at e; exact e
theorem tk_judge {M M1 M2 : zM} {N N1 : zN} (s : Int32) (h : zS M N) (hh : zHi M M1) (hr : zRl M1 N1 (sq_judge M s).2) (hq : zQ (sq_judge M1 s).2 M2) : zS M2 N1 :=
  zS.q hr (sq_judge_inv h.2 s) (by rw [ek_judge hh] at hq; exact hq)
theorem ek_image {M M1 : zM} (h : zHi M M1) : sq_image M1 = ((sq_image M).1, mg M1 (sq_image M).2) := by
  have e := sq_image_mg M1 M
  rw [← mg_of h] at e; exact e
theorem tk_image {M M1 M2 : zM} {N N1 : zN} (h : zS M N) (hh : zHi M M1) (hr : zRl M1 N1 (sq_image M).2) (hq : zQ (sq_image M1).2 M2) : zS M2 N1 :=
  zS.q hr (sq_image_inv h.2) (by rw [ek_image hh] at hq; exact hq)
theorem ek_restore {M M1 : zM} (h : zHi M M1) : sq_restore M1 = ((sq_restore M).1, mg M1 (sq_restore M).2) := by
  have e := sq_restore_mg M1 M
  rw [← mg_of h] at e; exact e
theorem tk_restore {M M1 M2 : zM} {N N1 : zN} (h : zS M N) (hh : zHi M M1) (hr : zRl M1 N1 (sq_restore M).2) (hq : zQ (sq_restore M1).2 M2) : zS M2 N1 :=
  zS.q hr (sq_restore_inv h.2) (by rw [ek_restore hh] at hq; exact hq)
theorem ek_tell {M M1 : zM} (h : zHi M M1) (v : Int32) : sq_tell M1 v = ((sq_tell M v).1, mg M1 (sq_tell M v).2) := by
  have e := sq_tell_mg M1 M v
  rw [← mg_of h] at e; exact e
theorem tk_tell {M M1 M2 : zM} {N N1 : zN} (v : Int32) (h : zS M N) (hh : zHi M M1) (hr : zRl M1 N1 (sq_tell M v).2) (hq : zQ (sq_tell M1 v).2 M2) : zS M2 N1 :=
  zS.q hr (sq_tell_inv h.2 v) (by rw [ek_tell hh] at hq; exact hq)
theorem ek_check {M M1 : zM} (h : zHi M M1) : sq_check M1 = ((sq_check M).1, mg M1 (sq_check M).2) := by
  have e := sq_check_mg M1 M
  rw [← mg_of h] at e; exact e
theorem tk_check {M M1 M2 : zM} {N N1 : zN} (h : zS M N) (hh : zHi M M1) (hr : zRl M1 N1 (sq_check M).2) (hq : zQ (sq_check M1).2 M2) : zS M2 N1 :=
  zS.q hr (sq_check_inv h.2) (by rw [ek_check hh] at hq; exact hq)
theorem ek_count {M M1 : zM} (h : zHi M M1) (w : Int32) : sq_count M1 w = ((sq_count M w).1, mg M1 (sq_count M w).2) := by
  have e := sq_count_mg M1 M w
  rw [← mg_of h] at e; exact e
theorem tk_count {M M1 M2 : zM} {N N1 : zN} (w : Int32) (h : zS M N) (hh : zHi M M1) (hr : zRl M1 N1 (sq_count M w).2) (hq : zQ (sq_count M1 w).2 M2) : zS M2 N1 :=
  zS.q hr (sq_count_inv h.2 w) (by rw [ek_count hh] at hq; exact hq)
theorem ek_told {M M1 : zM} (h : zHi M M1) (k : Int32) : sq_told M1 k = ((sq_told M k).1, mg M1 (sq_told M k).2) := by
  have e := sq_told_mg M1 M k
  rw [← mg_of h] at e; exact e
theorem tk_told {M M1 M2 : zM} {N N1 : zN} (k : Int32) (h : zS M N) (hh : zHi M M1) (hr : zRl M1 N1 (sq_told M k).2) (hq : zQ (sq_told M1 k).2 M2) : zS M2 N1 :=
  zS.q hr (sq_told_inv h.2 k) (by rw [ek_told hh] at hq; exact hq)
