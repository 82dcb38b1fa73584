/-- which places the world has -/
theorem zOk.ba {X : zX} {B : zB} {own : String} {cc : ByteArray} {nL d n : Nat} {ad : Nat → Nat} (o : zOk X B own cc nL d) : zOk X (zBa B ad n) own cc nL d := by
  obtain ⟨p, l, e, R, s, m, args, below, meth, c, Q, k1, sl1⟩ := X
  exact o
set_option maxHeartbeats 4000000 in
set_option maxRecDepth 100000 in
theorem whole_start {p : Program} {e : Env} {s : State} {m : MethodId} {below : List Frame} {meth : Method} {c : Code} (l : Launch) (hflags : l.flags = flags0) {b L : Nat} {xs : Nat → Int32} (hL : L ≤ 3072) (C0 : lw_At p s m meth c b L xs) : W p l e room_1 s m #[Value.ref b] below meth c s.heap [] 0 0 (lw_Z below #[Value.ref b] s) (entryFrame m ([Value.ref b] : List Value).toArray 4) := by
  obtain ⟨hx, hb, hr, hml, hown, hts, hX, hbl, hlocks, hgv⟩ := id C0
  obtain ⟨D, cy, hK⟩ := law_K hts
  obtain ⟨sq, sv, hSt⟩ := law_zSt hts hgv
  obtain ⟨B, hBe⟩ : ∃ B : zB, B = (D, cy, s.heap.size, (fun _ => 0), 0, sq, sv) := ⟨_, rfl⟩
  have hlo : zlo B = s.heap.size := by rw [hBe]; rfl
  have hSt : zSt B s := hSt B hlo (by rw [hBe]; rfl) (by rw [hBe]; rfl)
  have hK : va_K B.1 zcl (zty (zcy B)) s := by rw [hBe]; exact hK
  clear hBe
  have o : zOk (p, l, e, room_1, s, m, #[Value.ref b], below, meth, c, lw_Z below #[Value.ref b] s, 0, 0) B RL cL_law 4 61 := ⟨hx, hb, hml, hown, fun w hw => hts w (zTB_lw hw), hK, hSt, ⟨Nat.le_of_ble_eq_true rfl, Nat.le_of_ble_eq_true rfl, Nat.zero_le _, Nat.zero_le _⟩, hlocks⟩
  have hr9 : zRm (p, l, e, room_1, s, m, #[Value.ref b], below, meth, c, lw_Z below #[Value.ref b] s, 0, 0) 95 3420 := ⟨Nat.le_of_ble_eq_true rfl, Nat.le_of_ble_eq_true rfl⟩
  have hax : zAX (p, l, e, room_1, s, m, #[Value.ref b], below, meth, c, lw_Z below #[Value.ref b] s, 0, 0) := ⟨va_AO.of (hts _ (List.mem_of_getElem? (i := 104) (by decide +kernel))), va_AO.of (hts _ (List.mem_of_getElem? (i := 106) (by decide +kernel))), va_AO.of (hts _ (List.mem_of_getElem? (i := 283) (by decide +kernel)))⟩
  have h := law_made (b := b) o hr9 hax (fun q0 q11 q12 a2 a4 a6 a8 a10 a14 a16 a18 a20 aM => by
    refine zV.eq (law_same B q0 q11 q12 a2 a4 a6 a8 a10 a14 a16 a18 a20 aM) ?_
    have o2 := (o.xc hr9 (a := 95) (b := 3420) (Nat.le_refl _) (Nat.le_refl _)).ba (ad := law_ad q0 q11 q12 a2 a4 a6 a8 a10 a14 a16 a18 a20 aM) (n := 95)
    have hscr : zScr (zXc (p, l, e, room_1, s, m, #[Value.ref b], below, meth, c, lw_Z below #[Value.ref b] s, 0, 0) 95 3420) (zBa B (law_ad q0 q11 q12 a2 a4 a6 a8 a10 a14 a16 a18 a20 aM) 95) b L xs := ⟨hX, hbl, hlo⟩
    have h9 := law_loop o2 rfl hscr hL (fun M N i => by
      intro H locs ls hP hD hS hl
      refine lv_iconst (v := 1) hx hb dL_law_1495 (by decide) ?_
      refine va_forget (fun q hq => by have h8 : zlo B ≤ q.base := hS.2.2 q hq; rw [hlo] at h8; exact h8) ?_
      refine W.widen (k := 600000) (n := 7302250) (Nat.le_of_ble_eq_true rfl) (Nat.le_of_ble_eq_true rfl) ?_
      exact lw_ret hx hb hr hlocks dL_law_1496) (L + 1) 0 zm0 zn0 (by omega) (Nat.zero_le L) ⟨zm0_rl, zm0_inv⟩
    rw [nI_0] at h9
    exact h9)
  have hl := lv_entry ([.ref b]) (n := 4) (Nat.le_of_ble_eq_true rfl)
  rw [lg_entry_eq]
  generalize (lg_sl ([.ref b]) ++ List.replicate (4 - (lg_sl ([.ref b])).length) Slot.unset).toArray = ls at hl ⊢
  have hl : lv_has ls 4 [(0, .ref b)] := hl
  exact h s.heap [] ls (fun k q h9 => by simp at h9) ⟨fun i j p9 q h9 => by simp at h9, fun k q h9 => by simp at h9⟩ va_S.rf (by rw [hml]; exact hl)
