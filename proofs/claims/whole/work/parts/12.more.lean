/-! switches, case by case; numbers -/
theorem z_tcase {X : zX} {B : zB} {g : Nat → va_E} {own : String} {cc : ByteArray} {nL d pc : Nat} {lv : List (Nat × Value)} {st : List Value} {dflt lo hi : Int} {offs : Array Int} {len : Nat} {x : Int32} (k : Int32) {off : Int} {tgt : Nat} (o : zOk X B own cc nL d) (hd : decode cc pc = .ok (.tableswitch dflt lo hi offs, len)) (h1 : ¬ k.toInt < lo) (h2 : ¬ hi < k.toInt) (ho : offs[(k.toInt - lo).toNat]? = some off) (ht : (pc : Int) + off = (tgt : Int)) (kt : x = k → zW X B g tgt lv st) (kf : ¬ x = k → zW X B g pc lv (.int x :: st)) : zW X B g pc lv (.int x :: st) := by
  by_cases hx : x = k
  · obtain ⟨p, l, e, R, s, m, args, below, meth, c, Q, k1, sl1⟩ := X
    obtain ⟨hx0, hb, hml, hown, hts, hK, hSt, hR, hlk⟩ := o
    intro H locs ls hP hD hS hl
    have q9 := kt hx H locs ls hP hD hS hl
    subst hx
    exact lv_tableIn hx0 hb hd h1 h2 ho ht q9
  · exact kf hx
theorem z_tdef {X : zX} {B : zB} {g : Nat → va_E} {own : String} {cc : ByteArray} {nL d pc : Nat} {lv : List (Nat × Value)} {st : List Value} {dflt lo hi : Int} {offs : Array Int} {len : Nat} {x : Int32} {tgt : Nat} (o : zOk X B own cc nL d) (hd : decode cc pc = .ok (.tableswitch dflt lo hi offs, len)) (h : x.toInt < lo ∨ hi < x.toInt) (ht : (pc : Int) + dflt = (tgt : Int)) (kk : zW X B g tgt lv st) : zW X B g pc lv (.int x :: st) := by
  obtain ⟨p, l, e, R, s, m, args, below, meth, c, Q, k1, sl1⟩ := X
  obtain ⟨hx0, hb, hml, hown, hts, hK, hSt, hR, hlk⟩ := o
  intro H locs ls hP hD hS hl
  exact lv_tableOut hx0 hb hd h ht (kk H locs ls hP hD hS hl)
theorem z_lcase {X : zX} {B : zB} {g : Nat → va_E} {own : String} {cc : ByteArray} {nL d pc : Nat} {lv : List (Nat × Value)} {st : List Value} {dflt : Int} {ps : Array (Int × Int)} {len : Nat} {x : Int32} (k : Int32) {off : Int} {tgt : Nat} (o : zOk X B own cc nL d) (hd : decode cc pc = .ok (.lookupswitch dflt ps, len)) (hp : (ps.toList.zip (ps.toList.drop 1)).all (fun (a, next) => a.1 < next.1) = true) (ho : Op.lookupswitch.offset ps.toList dflt k.toInt = off) (ht : (pc : Int) + off = (tgt : Int)) (kt : x = k → zW X B g tgt lv st) (kf : ¬ x = k → zW X B g pc lv (.int x :: st)) : zW X B g pc lv (.int x :: st) := by
  by_cases hx : x = k
  · obtain ⟨p, l, e, R, s, m, args, below, meth, c, Q, k1, sl1⟩ := X
    obtain ⟨hx0, hb, hml, hown, hts, hK, hSt, hR, hlk⟩ := o
    intro H locs ls hP hD hS hl
    have q9 := kt hx H locs ls hP hD hS hl
    subst hx
    exact lv_lookup hx0 hb hd hp ho ht q9
  · exact kf hx
theorem z_ldef {X : zX} {B : zB} {g : Nat → va_E} {own : String} {cc : ByteArray} {nL d pc : Nat} {lv : List (Nat × Value)} {st : List Value} {dflt : Int} {ps : Array (Int × Int)} {len : Nat} {x : Int32} {tgt : Nat} (o : zOk X B own cc nL d) (hd : decode cc pc = .ok (.lookupswitch dflt ps, len)) (hp : (ps.toList.zip (ps.toList.drop 1)).all (fun (a, next) => a.1 < next.1) = true) (ho : Op.lookupswitch.offset ps.toList dflt x.toInt = dflt) (ht : (pc : Int) + dflt = (tgt : Int)) (kk : zW X B g tgt lv st) : zW X B g pc lv (.int x :: st) := by
  obtain ⟨p, l, e, R, s, m, args, below, meth, c, Q, k1, sl1⟩ := X
  obtain ⟨hx0, hb, hml, hown, hts, hK, hSt, hR, hlk⟩ := o
  intro H locs ls hP hD hS hl
  exact lv_lookup hx0 hb hd hp ho ht (kk H locs ls hP hD hS hl)
theorem zn_add {x y : Int32} {a b : Nat} (h1 : x = nI a) (h2 : y = nI b) : x + y = nI (a + b) := by rw [h1, h2, nI_add]
theorem zn_mul {x y : Int32} {a b : Nat} (h1 : x = nI a) (h2 : y = nI b) : x * y = nI (a * b) := by rw [h1, h2, pk_mul]
theorem zn_sub {x y : Int32} {a b : Nat} (h1 : x = nI a) (h2 : y = nI b) (h : b ≤ a) : x - y = nI (a - b) := by rw [h1, h2, pk_sub h]
theorem zn_ofInt (a : Nat) : nI a + Int32.ofInt 1 = nI (a + 1) := by rw [nI_succ]; rfl
theorem zi_lt {x y : Int32} (h : x < y) : x.toInt < y.toInt := Int32.lt_iff_toInt_lt.mp h
theorem zi_le {x y : Int32} (h : x ≤ y) : x.toInt ≤ y.toInt := Int32.le_iff_toInt_le.mp h
theorem zi_nlt {x y : Int32} (h : ¬ x < y) : y.toInt ≤ x.toInt := by
  rcases Int.lt_or_le x.toInt y.toInt with h1 | h1
  · exact absurd (Int32.lt_iff_toInt_lt.mpr h1) h
  · exact h1
theorem zi_nle {x y : Int32} (h : ¬ x ≤ y) : y.toInt < x.toInt := by
  rcases Int.lt_or_le y.toInt x.toInt with h1 | h1
  · exact h1
  · exact absurd (Int32.le_iff_toInt_le.mpr h1) h
theorem zi_eq {x y : Int32} (h : x = y) : x.toInt = y.toInt := by rw [h]
theorem zi_ne {x y : Int32} (h : ¬ x = y) : x.toInt ≠ y.toInt := fun q => h (Int32.toInt_inj.mp q)
/-- an int in 0 .. n -/
def zle (x : Int32) (n : Nat) : Prop := ∃ k : Nat, k ≤ n ∧ x = nI k
theorem zle_of {x : Int32} {n : Nat} (h0 : 0 ≤ x.toInt) (h1 : x.toInt ≤ n) (hn : n < 2 ^ 31) : zle x n := by
  refine ⟨x.toInt.toNat, by omega, ?_⟩
  apply Int32.toInt_inj.mp
  rw [nI_toInt (by omega)]
  omega
theorem zle_toInt {x : Int32} {n : Nat} (h : zle x n) (hn : n < 2 ^ 31) : 0 ≤ x.toInt ∧ x.toInt ≤ n := by
  obtain ⟨k, h1, rfl⟩ := h
  rw [nI_toInt (by omega)]
  omega
