/-! the law's script -/
def zScr (X : zX) (B : zB) (b L : Nat) (xs : Nat → Int32) : Prop := match X with
  | (p, l, e, R, s, m, args, below, meth, c, Q, k, sl) => va_X b L xs s s.heap ∧ b < s.heap.size ∧ zlo B = s.heap.size
theorem z_scl {X : zX} {B : zB} {g : Nat → va_E} {own : String} {cc : ByteArray} {nL d pc b L : Nat} {xs : Nat → Int32} {lv : List (Nat × Value)} {st : List Value} (o : zOk X B own cc nL d) (hX : zScr X B b L xs) (hd : decode cc pc = .ok (.arraylength, 1)) (kk : zW X B g (pc + 1) lv (.int (Int32.ofNat L) :: st)) : zW X B g pc lv (.ref b :: st) := by
  obtain ⟨p, l, e, R, s, m, args, below, meth, c, Q, k1, sl1⟩ := X
  obtain ⟨hx, hb, hml, hown, hts, hK, hSt, hR, hlk⟩ := o
  obtain ⟨h1, h2, h3⟩ := hX
  intro H locs ls hP hD hS hl
  exact va_slen hx hb h1 h2 (fun q => absurd (show zlo B ≤ b from q) (by omega)) hS hd (kk H locs ls hP hD hS hl)
theorem z_scd {X : zX} {B : zB} {g : Nat → va_E} {own : String} {cc : ByteArray} {nL d pc b L j : Nat} {xs : Nat → Int32} {lv : List (Nat × Value)} {st : List Value} (o : zOk X B own cc nL d) (hX : zScr X B b L xs) (hd : decode cc pc = .ok (.iaload, 1)) (hj : j < L) (hL : L ≤ 3072) (kk : zW X B g (pc + 1) lv (.int (xs j) :: st)) : zW X B g pc lv (.int (nI j) :: .ref b :: st) := by
  obtain ⟨p, l, e, R, s, m, args, below, meth, c, Q, k1, sl1⟩ := X
  obtain ⟨hx, hb, hml, hown, hts, hK, hSt, hR, hlk⟩ := o
  obtain ⟨h1, h2, h3⟩ := hX
  intro H locs ls hP hD hS hl
  refine va_sld hx hb h1 h2 (fun q => absurd (show zlo B ≤ b from q) (by omega)) hS (vp_in_nI hj (by omega)) hd ?_
  have e : (nI j).toNatClampNeg = j := zn_nI (by omega)
  rw [e]
  exact kk H locs ls hP hD hS hl
