/-! the reader of the class: its state -/
def sp_sg (x : Int32) : Int32 := if x = -1 then 0 else x
def zTx (ρ : Nat → Int32) (u : Nat) (M : zM) : Prop := M 67 2 = 1 ∧ M 67 3 = nI (sp_nt ρ) ∧ M 67 5 = nI (u + 1) ∧ ∀ j, j < 60 → M 5 j = (ρ (198 + j)).toInt8.toInt32
def zTS (ρ : Nat → Int32) (M : zM) (r : zPR) : Prop := M 67 4 = nI r.2.1 ∧ r.2.1 ≤ sp_nt ρ ∧ zle (M 67 1) 60 ∧ (r.1 = true → M 67 1 = nI r.2.2.length ∧ r.2.2.length ≤ r.2.1 ∧ ∀ j, j < r.2.2.length → zTok (r.2.2.getD j (0, 0)).1 (r.2.2.getD j (0, 0)).2 (M 68 j))
def zTCx (M M' : zM) : Prop := (∀ i, i ≠ 67 → i ≠ 68 → M' i = M i) ∧ (∀ k, k ≠ 1 → k ≠ 4 → M' 67 k = M 67 k)
theorem zTCx.rf {M : zM} : zTCx M M := ⟨fun _ _ _ => rfl, fun _ _ _ => rfl⟩
theorem zTCx.tr {M M1 M2 : zM} (h : zTCx M M1) (h2 : zTCx M1 M2) : zTCx M M2 := ⟨fun i a b => (h2.1 i a b).trans (h.1 i a b), fun k a b => (h2.2 k a b).trans (h.2 k a b)⟩
theorem zTCx.z {M M1 : zM} {k : Nat} {v : Int32} (h : zTCx M M1) (hk : k = 1 ∨ k = 4) : zTCx M (zu M1 67 k v) :=
  ⟨fun i a b => by rw [zu_ne a]; exact h.1 i a b, fun j a b => by rw [zu_at, upd_ne (by omega)]; exact h.2 j a b⟩
theorem zTCx.c {M M1 : zM} {k : Nat} {v : Int32} (h : zTCx M M1) : zTCx M (zu M1 68 k v) :=
  ⟨fun i a b => by rw [zu_ne b]; exact h.1 i a b, fun j a b => by rw [zu_ne (by decide)]; exact h.2 j a b⟩
theorem zTx.cx {ρ : Nat → Int32} {u : Nat} {M M' : zM} (h : zTx ρ u M) (hc : zTCx M M') : zTx ρ u M' :=
  ⟨(hc.2 2 (by decide) (by decide)).trans h.1, (hc.2 3 (by decide) (by decide)).trans h.2.1, (hc.2 5 (by decide) (by decide)).trans h.2.2.1, fun j hj => by rw [hc.1 5 (by decide) (by decide)]; exact h.2.2.2 j hj⟩
def sp_add (M : zM) (v : Int32) : zM := if zn (M 67 1) < 60 then zu (zu M 68 (zn (M 67 1)) v) 67 1 (nI (zn (M 67 1) + 1)) else M
theorem zTCx.st {M M1 : zM} {v : Int32} (h : zTCx M M1) : zTCx M (sp_add M1 v) := by
  unfold sp_add
  split
  · exact h.c.z (Or.inl rfl)
  · exact h
theorem zTS.any {ρ : Nat → Int32} {M : zM} {h : Nat} {t t' : List (Int32 × Int32)} (a : zTS ρ M (false, h, t)) : zTS ρ M (false, h, t') :=
  ⟨a.1, a.2.1, a.2.2.1, fun q => absurd q Bool.false_ne_true⟩
theorem zTS.bad {ρ : Nat → Int32} {M : zM} {r : zPR} {t : List (Int32 × Int32)} (a : zTS ρ M r) : zTS ρ M (false, r.2.1, t) :=
  ⟨a.1, a.2.1, a.2.2.1, fun q => absurd q Bool.false_ne_true⟩
theorem zTS.add {ρ : Nat → Int32} {M : zM} {r : zPR} {w v c : Int32} (h : zTS ρ M r) (h60 : sp_nt ρ ≤ 60) (hr : r.1 = true → r.2.2.length < r.2.1) (hc : zTok w v c) : zTS ρ (sp_add M c) (r.1, r.2.1, r.2.2 ++ [(w, v)]) := by
  obtain ⟨h1, h2, h4, h5⟩ := h
  obtain ⟨e4, l4⟩ := zle_zn (by decide) h4
  unfold sp_add
  split
  · rename_i hl
    refine ⟨?_, h2, ?_, fun q => ?_⟩
    · rw [zu_at, upd_ne (by decide), zu_ne (by decide)]; exact h1
    · rw [zu_at, upd_self]; exact ⟨_, by omega, rfl⟩
    · obtain ⟨c1, c2, c3⟩ := h5 q
      have cl := hr q
      have el : zn (M 67 1) = r.2.2.length := by rw [c1]; exact zn_nI (by omega)
      have ell : (r.2.2 ++ [(w, v)]).length = r.2.2.length + 1 := by rw [List.length_append]; rfl
      refine ⟨?_, ?_, fun j hj => ?_⟩
      · rw [zu_at, upd_self, el]; show _ = nI (r.2.2 ++ [(w, v)]).length; rw [ell]
      · show (r.2.2 ++ [(w, v)]).length ≤ r.2.1; rw [ell]; omega
      · have hj : j < (r.2.2 ++ [(w, v)]).length := hj
        rw [ell] at hj
        rw [zu_ne (by decide), zu_at, el]
        show zTok ((r.2.2 ++ [(w, v)]).getD j (0, 0)).1 ((r.2.2 ++ [(w, v)]).getD j (0, 0)).2 (upd (M 68) _ _ j)
        rcases Nat.lt_or_ge j r.2.2.length with z | z
        · rw [upd_ne (by omega), gd_lt z]; exact c3 j z
        · obtain rfl : j = r.2.2.length := by omega
          rw [upd_self, gd_end]
          exact hc
  · rename_i hl
    refine ⟨h1, h2, h4, fun q => ?_⟩
    obtain ⟨c1, c2, c3⟩ := h5 q
    have cl := hr q
    have el : zn (M 67 1) = r.2.2.length := by rw [c1]; exact zn_nI (by omega)
    omega
/-- one place on -/
theorem zTS.adv {ρ : Nat → Int32} {M : zM} {r : zPR} (h : zTS ρ M r) (hr : r.1 = true) (hlk : sp_lk ρ r.2.1 ≠ -1) : zTS ρ (zu M 67 4 (nI (r.2.1 + 1))) (true, r.2.1 + 1, r.2.2) := by
  obtain ⟨h1, h2, h4, h5⟩ := h
  have hlt := sp_lk_lt hlk
  refine ⟨by rw [zu_at, upd_self], hlt, by rw [zu_at, upd_ne (by decide)]; exact h4, fun _ => ?_⟩
  obtain ⟨c1, c2, c3⟩ := h5 hr
  refine ⟨by rw [zu_at, upd_ne (by decide)]; exact c1, by show r.2.2.length ≤ r.2.1 + 1; omega, fun j hj => ?_⟩
  rw [zu_ne (by decide)]
  exact c3 j hj
/-- signs -/
theorem sg_eq {x k : Int32} (hk : k ≠ 0) (hk1 : k ≠ -1) : sp_sg x = k ↔ x = k := by
  unfold sp_sg
  by_cases h : x = -1
  · rw [if_pos h, h]
    exact ⟨fun q => absurd q.symm hk, fun q => absurd q.symm hk1⟩
  · rw [if_neg h]
theorem sg_jo {L : Nat} {x : Int32} : sp_jo L (sp_sg x) = sp_jo L x := by
  unfold sp_sg
  by_cases h : x = -1
  · rw [if_pos h, h, sp_jo_m1]
    unfold sp_jo
    (repeat' split) <;> decide
  · rw [if_neg h]
theorem sg_zin {x : Int32} : zin (sp_sg x) 48 57 = zin x 48 57 := by
  unfold sp_sg
  by_cases h : x = -1
  · rw [if_pos h, h]; decide
  · rw [if_neg h]
theorem sg_nm {u : Nat} {x : Int32} : sp_nm u (sp_sg x) = sp_nm u x := by
  unfold sp_sg
  by_cases h : x = -1
  · rw [if_pos h, h]
    unfold sp_nm
    by_cases hu : u = 0
    · rw [if_pos hu, if_pos hu]; decide
    · rw [if_neg hu, if_neg hu]; decide
  · rw [if_neg h]
theorem lk_le {ρ : Nat → Int32} {h : Nat} (hok : zOkR ρ) (hh : h < sp_nt ρ) : ∃ b : Nat, b < 256 ∧ ρ (198 + h) = nI b := by
  obtain ⟨hnt, hnt60⟩ := ok_nt2 hok
  obtain ⟨b, hb, e⟩ := hok (198 + h) 255 (zbd_t (by omega))
  exact ⟨b, by omega, e⟩
theorem sg_le {ρ : Nat → Int32} {h : Nat} (hok : zOkR ρ) : ∃ b : Nat, b < 256 ∧ sp_sg (sp_lk ρ h) = nI b := by
  by_cases hh : h < sp_nt ρ
  · obtain ⟨b, hb, e⟩ := lk_le hok hh
    refine ⟨b, hb, ?_⟩
    unfold sp_lk sp_sg
    rw [if_pos hh, e, if_neg (fun q => absurd (show (nI b) < 0 by rw [q]; decide) (nI_pos (by omega)))]
  · refine ⟨0, by decide, ?_⟩
    unfold sp_lk sp_sg
    rw [if_neg hh, if_pos rfl]; rfl
theorem sg_v {ρ : Nat → Int32} {h : Nat} (hok : zOkR ρ) (hh : h < sp_nt ρ) : sp_sg (sp_lk ρ h) = ρ (198 + h) ∧ zle (ρ (198 + h)) 255 := by
  obtain ⟨b, hb, e⟩ := lk_le hok hh
  refine ⟨?_, ⟨b, by omega, e⟩⟩
  unfold sp_lk sp_sg
  rw [if_pos hh, e, if_neg (fun q => absurd (show (nI b) < 0 by rw [q]; decide) (nI_pos (by omega)))]
theorem by_chr : ∀ b : Fin 256, ((nI b.1).toUInt32 % 65536).toInt32 = nI b.1 := by decide +kernel
theorem by_ch {x : Int32} (h : zle x 255) : (x.toUInt32 % 65536).toInt32 = x := by
  obtain ⟨b, hb, rfl⟩ := h
  exact by_chr ⟨b, by omega⟩
theorem by_nch : ∀ b : Fin 256, narrow .char (.int (nI b.1)) = .int (nI b.1) := by decide +kernel
theorem zin_dg2 {x : Int32} (h : ¬ zin x 48 57 = 0) : ∃ c : Nat, 48 ≤ c ∧ c ≤ 57 ∧ x = nI c := by
  unfold zin at h
  by_cases h1 : x < 48
  · rw [if_pos h1] at h; exact absurd rfl h
  · rw [if_neg h1] at h
    by_cases h2 : 57 < x
    · rw [if_pos h2] at h; exact absurd rfl h
    · have a1 := zi_nlt h1
      have a2 := zi_nlt h2
      have b1 : (48 : Int32).toInt = 48 := by decide
      have b2 : (57 : Int32).toInt = 57 := by decide
      obtain ⟨c, hc, e⟩ := zle_of (x := x) (n := 57) (by omega) (by omega) (by decide)
      refine ⟨c, ?_, hc, e⟩
      rw [e, nI_toInt (by omega)] at a1
      omega
theorem dig_no {u : Nat} {x : Int32} (h : ¬ zin x 48 57 = 0) : sp_nm u x < 0 ∧ ¬ x = 33 ∧ ¬ x = 40 ∧ ¬ x = -1 := by
  obtain ⟨c, c1, c2, rfl⟩ := zin_dg2 h
  rcases (show c = 48 ∨ c = 49 ∨ c = 50 ∨ c = 51 ∨ c = 52 ∨ c = 53 ∨ c = 54 ∨ c = 55 ∨ c = 56 ∨ c = 57 by omega) with rfl | rfl | rfl | rfl | rfl | rfl | rfl | rfl | rfl | rfl <;> (unfold sp_nm; refine ⟨?_, by decide, by decide, by decide⟩; split <;> decide)
def zb (b : Bool) : Int32 := if b then 1 else 0
theorem zb_01 (b : Bool) : zb b = 0 ∨ zb b = 1 := by cases b <;> simp [zb]
