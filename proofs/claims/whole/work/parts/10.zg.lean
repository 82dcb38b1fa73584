/-! memory -/
theorem z_getf {X : zX} {B : zB} {g : Nat → va_E} {own : String} {cc : ByteArray} {nL d pc : Nat} {lv : List (Nat × Value)} {st : List Value} {ix ci k i : Nat} {fs : List Value} {v : Value} (o : zOk X B own cc nL d) (hd : decode cc pc = .ok (.getfield ix, 3)) (hF : zFld own ix ci k) (hi : i < znn B) (he : g i = .inr (ci, fs)) (hv : fs[k]? = some v) (kk : zW X B g (pc + 3) lv (v :: st)) : zW X B g pc lv (zref B i :: st) := by
  obtain ⟨p, l, e, R, s, m, args, below, meth, c, Q, k1, sl1⟩ := X
  obtain ⟨hx, hb, hml, hown, hts, hK, hSt, hR, hlk⟩ := o
  intro H locs ls hP hD hS hl
  obtain ⟨C, T, Nf, f1, f2, f3, f4⟩ := hF
  exact va_get (D := B.1) hx hb hts f3 hown hK hP i (zwl_e hi he) f1 k f2 (hts _ f4) (fun _ h9 => h9) hv hd (kk H locs ls hP hD hS hl)
theorem z_putf {X : zX} {B : zB} {g : Nat → va_E} {own : String} {cc : ByteArray} {nL d pc : Nat} {lv : List (Nat × Value)} {st : List Value} {ix ci k i : Nat} {fs : List Value} {v : Value} {ty : FieldType} (o : zOk X B own cc nL d) (hd : decode cc pc = .ok (.putfield ix, 3)) (hF : zFldP own ix ci k ty) (hi : i < znn B) (he : g i = .inr (ci, fs)) (hn : narrow ty v = v) (hfit : fits ty v = true) (hlen : k < fs.length) (kk : zW X B (va_up g i (.inr (ci, fs.set k v))) (pc + 3) lv st) : zW X B g pc lv (v :: zref B i :: st) := by
  obtain ⟨p, l, e, R, s, m, args, below, meth, c, Q, k1, sl1⟩ := X
  obtain ⟨hx, hb, hml, hown, hts, hK, hSt, hR, hlk⟩ := o
  intro H locs ls hP hD hS hl
  obtain ⟨C, T, Nf, ty0, f1, f2, f3, f4, f5, f6, f7, f8⟩ := hF
  exact va_put (D := B.1) hx hb hts f3 ty0 f5 f6 hown hK hP hD hS i (zwl_e hi he) f1 k f2 (hts _ f4) (fun _ h9 => h9) f7 f8 hn hfit hlen hd (fun H1 locs1 hP1 hD1 hS1 => kk H1 locs1 ls (by rw [zwl_set hi] at hP1; exact hP1) (by rw [zwl_set hi] at hD1; exact hD1) hS1 hl)
def zInit (X : zX) : Prop := match X with | (p, l, e, R, s, m, args, below, meth, c, Q, k, sl) => meth.name = "<init>"
theorem z_putF {X : zX} {B : zB} {g : Nat → va_E} {own : String} {cc : ByteArray} {nL d pc : Nat} {lv : List (Nat × Value)} {st : List Value} {ix ci k i : Nat} {fs : List Value} {v : Value} {ty : FieldType} (o : zOk X B own cc nL d) (hin : zInit X) (hd : decode cc pc = .ok (.putfield ix, 3)) (hF : zFldW own ix ci k ty true) (hi : i < znn B) (he : g i = .inr (ci, fs)) (hn : narrow ty v = v) (hfit : fits ty v = true) (hlen : k < fs.length) (kk : zW X B (va_up g i (.inr (ci, fs.set k v))) (pc + 3) lv st) : zW X B g pc lv (v :: zref B i :: st) := by
  obtain ⟨p, l, e, R, s, m, args, below, meth, c, Q, k1, sl1⟩ := X
  obtain ⟨hx, hb, hml, hown, hts, hK, hSt, hR, hlk⟩ := o
  intro H locs ls hP hD hS hl
  obtain ⟨C, T, Nf, ty0, f1, f2, f3, f4, f5, f6, f7, f8, f9⟩ := hF
  exact va_putF (D := B.1) hx hb hts f3 ty0 f5 f6 hown hK hP hD hS i (zwl_e hi he) f1 k f2 (hts _ f4) (fun _ h9 => h9) f7 hin f9 f8 hn hfit hlen hd (fun H1 locs1 hP1 hD1 hS1 => kk H1 locs1 ls (by rw [zwl_set hi] at hP1; exact hP1) (by rw [zwl_set hi] at hD1; exact hD1) hS1 hl)
theorem z_iald {X : zX} {B : zB} {g : Nat → va_E} {own : String} {cc : ByteArray} {nL d pc : Nat} {lv : List (Nat × Value)} {st : List Value} {i n : Nat} {f : Nat → Int32} {j : Int32} (o : zOk X B own cc nL d) (hd : decode cc pc = .ok (.iaload, 1)) (hi : i < znn B) (he : g i = .inl (zcy B 1, n, .inl f)) (hin : vp_in j n) (kk : zW X B g (pc + 1) lv (.int (f j.toNatClampNeg) :: st)) : zW X B g pc lv (.int j :: zref B i :: st) := by
  obtain ⟨p, l, e, R, s, m, args, below, meth, c, Q, k1, sl1⟩ := X
  obtain ⟨hx, hb, hml, hown, hts, hK, hSt, hR, hlk⟩ := o
  intro H locs ls hP hD hS hl
  exact va_iald (D := B.1) hx hb hK hP i 1 (zwl_e hi he) rfl hin hd (kk H locs ls hP hD hS hl)
theorem z_bald {X : zX} {B : zB} {g : Nat → va_E} {own : String} {cc : ByteArray} {nL d pc : Nat} {lv : List (Nat × Value)} {st : List Value} {i n : Nat} {f : Nat → Int32} {j : Int32} (o : zOk X B own cc nL d) (hd : decode cc pc = .ok (.baload, 1)) (hi : i < znn B) (he : g i = .inl (zcy B 0, n, .inl f)) (hin : vp_in j n) (kk : zW X B g (pc + 1) lv (.int (f j.toNatClampNeg) :: st)) : zW X B g pc lv (.int j :: zref B i :: st) := by
  obtain ⟨p, l, e, R, s, m, args, below, meth, c, Q, k1, sl1⟩ := X
  obtain ⟨hx, hb, hml, hown, hts, hK, hSt, hR, hlk⟩ := o
  intro H locs ls hP hD hS hl
  exact va_bald (D := B.1) hx hb hK hP i 0 (zwl_e hi he) rfl hin hd (kk H locs ls hP hD hS hl)
theorem z_lald {X : zX} {B : zB} {g : Nat → va_E} {own : String} {cc : ByteArray} {nL d pc : Nat} {lv : List (Nat × Value)} {st : List Value} {i n : Nat} {f : Nat → Int64} {j : Int32} (o : zOk X B own cc nL d) (hd : decode cc pc = .ok (.laload, 1)) (hi : i < znn B) (he : g i = .inl (zcy B 2, n, .inr (.inl f))) (hin : vp_in j n) (kk : zW X B g (pc + 1) lv (.long (f j.toNatClampNeg) :: st)) : zW X B g pc lv (.int j :: zref B i :: st) := by
  obtain ⟨p, l, e, R, s, m, args, below, meth, c, Q, k1, sl1⟩ := X
  obtain ⟨hx, hb, hml, hown, hts, hK, hSt, hR, hlk⟩ := o
  intro H locs ls hP hD hS hl
  exact va_lald (D := B.1) hx hb hK hP i 2 (zwl_e hi he) rfl hin hd (kk H locs ls hP hD hS hl)
theorem z_iast {X : zX} {B : zB} {g : Nat → va_E} {own : String} {cc : ByteArray} {nL d pc : Nat} {lv : List (Nat × Value)} {st : List Value} {i n : Nat} {f : Nat → Int32} {j : Int32} {x : Int32} (o : zOk X B own cc nL d) (hd : decode cc pc = .ok (.iastore, 1)) (hi : i < znn B) (he : g i = .inl (zcy B 1, n, .inl f)) (hin : vp_in j n) (kk : zW X B (va_up g i (.inl (zcy B 1, n, .inl (upd f j.toNatClampNeg x)))) (pc + 1) lv st) : zW X B g pc lv (.int x :: .int j :: zref B i :: st) := by
  obtain ⟨p, l, e, R, s, m, args, below, meth, c, Q, k1, sl1⟩ := X
  obtain ⟨hx, hb, hml, hown, hts, hK, hSt, hR, hlk⟩ := o
  intro H locs ls hP hD hS hl
  exact va_iast (D := B.1) hx hb hK hP hD hS i 1 (zwl_e hi he) rfl hin hd (fun H1 locs1 hP1 hD1 hS1 => kk H1 locs1 ls (by rw [zwl_set hi] at hP1; exact hP1) (by rw [zwl_set hi] at hD1; exact hD1) hS1 hl)
theorem z_bast {X : zX} {B : zB} {g : Nat → va_E} {own : String} {cc : ByteArray} {nL d pc : Nat} {lv : List (Nat × Value)} {st : List Value} {i n : Nat} {f : Nat → Int32} {j : Int32} {x : Int32} (o : zOk X B own cc nL d) (hd : decode cc pc = .ok (.bastore, 1)) (hi : i < znn B) (he : g i = .inl (zcy B 0, n, .inl f)) (hin : vp_in j n) (kk : zW X B (va_up g i (.inl (zcy B 0, n, .inl (upd f j.toNatClampNeg (vp_nar .byte x))))) (pc + 1) lv st) : zW X B g pc lv (.int x :: .int j :: zref B i :: st) := by
  obtain ⟨p, l, e, R, s, m, args, below, meth, c, Q, k1, sl1⟩ := X
  obtain ⟨hx, hb, hml, hown, hts, hK, hSt, hR, hlk⟩ := o
  intro H locs ls hP hD hS hl
  exact va_bast (D := B.1) hx hb hK hP hD hS i 0 (zwl_e hi he) rfl hin hd (fun H1 locs1 hP1 hD1 hS1 => kk H1 locs1 ls (by rw [zwl_set hi] at hP1; exact hP1) (by rw [zwl_set hi] at hD1; exact hD1) hS1 hl)
theorem z_last {X : zX} {B : zB} {g : Nat → va_E} {own : String} {cc : ByteArray} {nL d pc : Nat} {lv : List (Nat × Value)} {st : List Value} {i n : Nat} {f : Nat → Int64} {j : Int32} {x : Int64} (o : zOk X B own cc nL d) (hd : decode cc pc = .ok (.lastore, 1)) (hi : i < znn B) (he : g i = .inl (zcy B 2, n, .inr (.inl f))) (hin : vp_in j n) (kk : zW X B (va_up g i (.inl (zcy B 2, n, .inr (.inl (vp_updL f j.toNatClampNeg x))))) (pc + 1) lv st) : zW X B g pc lv (.long x :: .int j :: zref B i :: st) := by
  obtain ⟨p, l, e, R, s, m, args, below, meth, c, Q, k1, sl1⟩ := X
  obtain ⟨hx, hb, hml, hown, hts, hK, hSt, hR, hlk⟩ := o
  intro H locs ls hP hD hS hl
  exact va_last (D := B.1) hx hb hK hP hD hS i 2 (zwl_e hi he) rfl hin hd (fun H1 locs1 hP1 hD1 hS1 => kk H1 locs1 ls (by rw [zwl_set hi] at hP1; exact hP1) (by rw [zwl_set hi] at hD1; exact hD1) hS1 hl)
theorem z_aald {X : zX} {B : zB} {g : Nat → va_E} {own : String} {cc : ByteArray} {nL d pc : Nat} {lv : List (Nat × Value)} {st : List Value} {i n t : Nat} {C : String} {f : Nat → Option Nat} {j : Int32} (o : zOk X B own cc nL d) (hd : decode cc pc = .ok (.aaload, 1)) (hi : i < znn B) (he : g i = .inl (zcy B t, n, .inr (.inr (.inr (.inr f))))) (ht : (zty (zcy B))[t]? = some (zcy B t, .object C)) (hin : vp_in j n) (kk : zW X B g (pc + 1) lv (va_rf (f j.toNatClampNeg) :: st)) : zW X B g pc lv (.int j :: zref B i :: st) := by
  obtain ⟨p, l, e, R, s, m, args, below, meth, c, Q, k1, sl1⟩ := X
  obtain ⟨hx, hb, hml, hown, hts, hK, hSt, hR, hlk⟩ := o
  intro H locs ls hP hD hS hl
  exact va_aldq (D := B.1) hx hb hK hP i t (zwl_e hi he) ht hin hd (kk H locs ls hP hD hS hl)
theorem z_alen {X : zX} {B : zB} {g : Nat → va_E} {own : String} {cc : ByteArray} {nL d pc : Nat} {lv : List (Nat × Value)} {st : List Value} {i t : Nat} {x : vp_A} {ty : FieldType} (o : zOk X B own cc nL d) (hd : decode cc pc = .ok (.arraylength, 1)) (hi : i < znn B) (he : g i = .inl (zcy B t, x)) (ht : (zty (zcy B))[t]? = some (zcy B t, ty)) (kk : zW X B g (pc + 1) lv (.int (Int32.ofNat x.1) :: st)) : zW X B g pc lv (zref B i :: st) := by
  obtain ⟨p, l, e, R, s, m, args, below, meth, c, Q, k1, sl1⟩ := X
  obtain ⟨hx, hb, hml, hown, hts, hK, hSt, hR, hlk⟩ := o
  intro H locs ls hP hD hS hl
  exact va_alen (D := B.1) hx hb hK hP i t (zwl_e hi he) ht rfl hd (kk H locs ls hP hD hS hl)
theorem z_lcmp {X : zX} {B : zB} {g : Nat → va_E} {own : String} {cc : ByteArray} {nL d pc : Nat} {lv : List (Nat × Value)} {st : List Value} {x y : Int64} (o : zOk X B own cc nL d) (hd : decode cc pc = .ok (.lcmp, 1)) (kk : zW X B g (pc + 1) lv (.int (lg_cmp x y) :: st)) : zW X B g pc lv (.long y :: .long x :: st) := by
  obtain ⟨p, l, e, R, s, m, args, below, meth, c, Q, k1, sl1⟩ := X
  obtain ⟨hx, hb, hml, hown, hts, hK, hSt, hR, hlk⟩ := o
  intro H locs ls hP hD hS hl
  exact W.lcmp hx hb hd (kk H locs ls hP hD hS hl)
/-- the table ABOVE: a length, or a number of it -/
theorem z_aboveLen {X : zX} {B : zB} {g : Nat → va_E} {own : String} {cc : ByteArray} {nL d pc : Nat} {lv : List (Nat × Value)} {st : List Value} {ix : Nat} (o : zOk X B own cc nL d) (hd : decode cc pc = .ok (.getstatic ix, 3)) (hl0 : Cond.fieldLink own ix "WalkFences" "ABOVE" "[I" ∈ zTB) (hd2 : decode cc (pc + 3) = .ok (.arraylength, 1)) (kk : zW X B g (pc + 3 + 1) lv (.int 7 :: st)) : zW X B g pc lv st := by
  obtain ⟨p, l, e, R, s, m, args, below, meth, c, Q, k1, sl1⟩ := X
  obtain ⟨hx, hb, hml, hown, hts, hK, hSt, hR, hlk⟩ := o
  intro H locs ls hP hD hS hl
  obtain ⟨⟨t, hZ, hT⟩, -⟩ := hSt
  refine va_gets hx hb hZ hS hown (hts _ hl0) (fun _ h9 => h9) hd ?_
  exact va_tlen hx hb hT hS rfl hd2 (kk H locs ls hP hD hS hl)
theorem z_aboveAt {X : zX} {B : zB} {g : Nat → va_E} {own : String} {cc : ByteArray} {nL d pc : Nat} {lv : List (Nat × Value)} {st : List Value} {ix k j1 : Nat} {kk4 : Fin 4} {j : Int32} (o : zOk X B own cc nL d) (hd : decode cc pc = .ok (.getstatic ix, 3)) (hl0 : Cond.fieldLink own ix "WalkFences" "ABOVE" "[I" ∈ zTB) (hd1 : decode cc (pc + 3) = .ok (.iload_n kk4, 1)) (hv : lv[j1]? = some ((kk4 : Nat), .int j)) (hd2 : decode cc (pc + 3 + 1) = .ok (.iaload, 1)) (hin : vp_in j 7) (kk : zW X B g (pc + 3 + 1 + 1) lv (.int (([-1, 0, 0, 0, 1, 2, 0] : List Int32).getD j.toNatClampNeg 0) :: st)) : zW X B g pc lv st := by
  obtain ⟨p, l, e, R, s, m, args, below, meth, c, Q, k1, sl1⟩ := X
  obtain ⟨hx, hb, hml, hown, hts, hK, hSt, hR, hlk⟩ := o
  intro H locs ls hP hD hS hl
  obtain ⟨⟨t, hZ, hT⟩, -⟩ := hSt
  refine va_gets hx hb hZ hS hown (hts _ hl0) (fun _ h9 => h9) hd ?_
  refine lv_iload_n hx hb hd1 rfl (lv_at hl j1 hv) ?_
  exact va_ti hx hb hT hS hin rfl hd2 (kk H locs ls hP hD hS hl)
/-! contracts -/
def zR (d : Nat) : Room := { frames := d, cells := 0, slots := 0, locals := 60 * d }
def zCi (B : zB) (g : Nat → va_E) (y : MethodName) (cc : ByteArray) (nL : Nat) (ret : Option FieldType) (d : Nat) (av : List Value) (post : Int32 → (Nat → va_E) → Prop) : Prop := ∀ l : Launch, Met l y (.code y cc nL ret :: zTB) (zR d) (va_Pc av (zIn B g)) (va_Qi post (fun u t => zIn B u t) (zA (zlo B))) 0 0 (zA (zlo B))
def zCl (B : zB) (g : Nat → va_E) (y : MethodName) (cc : ByteArray) (nL : Nat) (ret : Option FieldType) (d : Nat) (av : List Value) (post : Int64 → (Nat → va_E) → Prop) : Prop := ∀ l : Launch, Met l y (.code y cc nL ret :: zTB) (zR d) (va_Pc av (zIn B g)) (va_Ql post (fun u t => zIn B u t) (zA (zlo B))) 0 0 (zA (zlo B))
def zCv (B : zB) (g : Nat → va_E) (y : MethodName) (cc : ByteArray) (nL : Nat) (ret : Option FieldType) (d : Nat) (av : List Value) (post : (Nat → va_E) → Prop) : Prop := ∀ l : Launch, Met l y (.code y cc nL ret :: zTB) (zR d) (va_Pc av (zIn B g)) (va_Qv post (fun u t => zIn B u t) (zA (zlo B))) 0 0 (zA (zlo B))
def zCr (B : zB) (g : Nat → va_E) (y : MethodName) (cc : ByteArray) (nL : Nat) (ret : Option FieldType) (d : Nat) (av : List Value) (post : Nat → (Nat → va_E) → Prop) : Prop := ∀ l : Launch, Met l y (.code y cc nL ret :: zTB) (zR d) (va_Pc av (zIn B g)) (va_Qr (fun u : Nat × (Nat → va_E) => post u.1 u.2) (fun u ra t => u.1 = ra ∧ zIn B u.2 t) (zA (zlo B))) 0 0 (zA (zlo B))
theorem zIn_blind {B : zB} {g : Nat → va_E} {av : List Value} : FrameBlind (va_Pc av (zIn B g)) := by
  intro a U gf mk h
  obtain ⟨h0, h1, h2, h3, h4⟩ := h
  exact ⟨h0, h1, h2, va_K.moved (u := U) (U := U.calling gf mk a) (Vm.Alike.refl U.vm) h3, zSt_same h4 rfl rfl⟩
theorem zIn_of {B : zB} {g : Nat → va_E} {s U : State} {H : Heap} {locs : List Loc} (hP : va_P B.1 zcl (zwl (zad B) (znn B) g) H) (hD : va_D (zA (zlo B)) (zwl (zad B) (znn B) g)) (hK : va_K B.1 zcl (zty (zcy B)) s) (hSt : zSt B s) (hS : va_S (zA (zlo B)) s.heap H locs) (hU : U.heap = H) (hW : s.WarmedH U.vm) : zIn B g U :=
  ⟨by rw [hU]; exact hP, hD, va_K.moved hW.alike hK, zSt_kept hSt hW hS hU⟩
/-- a body's frame, for any of the four kinds of answer -/
theorem zBody {B : zB} {g : Nat → va_E} {y : MethodName} {cc : ByteArray} {nL d : Nat} {ret : Option FieldType} {av : List Value} {Qc : Array Value → State → Outcome → State → Prop} (hy : plainName y.cls = true) (hn : (lg_sl av).length ≤ nL)
    (body : ∀ (p : Program) (l : Launch) (e : Env) (s : State) (m : MethodId) (below : List Frame) (meth : Method) (c : Code), meth.sig.returnType = ret → (y.name = "<init>" → meth.name = "<init>") → zOk (p, l, e, zR d, s, m, av.toArray, below, meth, c, MQ below Qc av.toArray s 0 0 (zA (zlo B)), 0, 0) B y.cls cc nL d → zW (p, l, e, zR d, s, m, av.toArray, below, meth, c, MQ below Qc av.toArray s 0 0 (zA (zlo B)), 0, 0) B g 0 (lv_args 0 av) []) (l : Launch) : Met l y (.code y cc nL ret :: zTB) (zR d) (va_Pc av (zIn B g)) Qc 0 0 (zA (zlo B)) := by
  refine Met.ofW (cc := cc) (maxL := nL) (ret := ret) hy rfl ?_
  intro p e s m args below meth c s₁ Bo hml hv
  obtain ⟨rfl, hP, hD, hK, hSt⟩ := hv
  have hts0 := atoms_spec (ws := .code y cc nL ret :: zTB) Bo.pre
  have hown : s.vm.findClass y.cls = some m.cls := findClass_of_methodNamed Bo.named
  have hnm : meth.name = y.name := (name_of_methodNamed Bo.named Bo.method).1
  have hl := lv_entry av (n := nL) hn
  rw [lg_entry_eq]
  generalize (lg_sl av ++ List.replicate (nL - (lg_sl av).length) Slot.unset).toArray = ls at hl ⊢
  exact body p l e s m below meth c Bo.returns (fun h => hnm.trans h) ⟨Bo.exec, Bo.bytes, hml, hown, fun w hw => hts0 w (List.mem_cons_of_mem _ hw), hK, hSt, ⟨Nat.le_refl _, Nat.le_refl _, Nat.le_refl _, Nat.le_refl _⟩, Bo.notSynchronized⟩ s.heap [] ls hP hD va_S.rf (by rw [hml]; exact hl)
theorem zCi_of {B : zB} {g : Nat → va_E} {y : MethodName} {cc : ByteArray} {nL d : Nat} {ret : Option FieldType} {av : List Value} {post : Int32 → (Nat → va_E) → Prop} (hy : plainName y.cls = true) (hn : (lg_sl av).length ≤ nL) (ty : FieldType) (hret : ret = some ty) (hnar : ∀ r g', post r g' → narrow ty (.int r) = .int r)
    (body : ∀ X : zX, zOk X B y.cls cc nL d → (∀ (r : Int32) (g' : Nat → va_E) (pc : Nat) (lv : List (Nat × Value)), decode cc pc = .ok (.ireturn, 1) → post r g' → zW X B g' pc lv [.int r]) → zW X B g 0 (lv_args 0 av) []) : zCi B g y cc nL ret d av post := by
  intro l
  refine zBody hy hn (fun p l e s m below meth c hr _ o => body _ o ?_) l
  intro r g' pc lv hd hp
  obtain ⟨hx, hb, hml, hown, hts, hK, hSt, hR, hlk⟩ := o
  intro H locs ls hP hD hS hl
  exact W.zret hx hb (hr.trans hret) (hnar r g' hp) (fun t ht hW => ⟨⟨r, g', rfl, hp, zIn_of hP hD hK hSt hS ht hW⟩, hS.F ht⟩) hS.2.2 hd hlk
theorem zCl_of {B : zB} {g : Nat → va_E} {y : MethodName} {cc : ByteArray} {nL d : Nat} {av : List Value} {post : Int64 → (Nat → va_E) → Prop} (hy : plainName y.cls = true) (hn : (lg_sl av).length ≤ nL)
    (body : ∀ X : zX, zOk X B y.cls cc nL d → (∀ (r : Int64) (g' : Nat → va_E) (pc : Nat) (lv : List (Nat × Value)), decode cc pc = .ok (.lreturn, 1) → post r g' → zW X B g' pc lv [.long r]) → zW X B g 0 (lv_args 0 av) []) : zCl B g y cc nL (some .long) d av post := by
  intro l
  refine zBody hy hn (fun p l e s m below meth c hr _ o => body _ o ?_) l
  intro r g' pc lv hd hp
  obtain ⟨hx, hb, hml, hown, hts, hK, hSt, hR, hlk⟩ := o
  intro H locs ls hP hD hS hl
  exact W.lret hx hb hr (fun t ht hW => ⟨⟨r, g', rfl, hp, zIn_of hP hD hK hSt hS ht hW⟩, hS.F ht⟩) hS.2.2 hd hlk
theorem zCv_of {B : zB} {g : Nat → va_E} {y : MethodName} {cc : ByteArray} {nL d : Nat} {av : List Value} {post : (Nat → va_E) → Prop} (hy : plainName y.cls = true) (hn : (lg_sl av).length ≤ nL)
    (body : ∀ X : zX, zOk X B y.cls cc nL d → (∀ (g' : Nat → va_E) (pc : Nat) (lv : List (Nat × Value)), decode cc pc = .ok (.return_, 1) → post g' → zW X B g' pc lv []) → zW X B g 0 (lv_args 0 av) []) : zCv B g y cc nL none d av post := by
  intro l
  refine zBody hy hn (fun p l e s m below meth c hr _ o => body _ o ?_) l
  intro g' pc lv hd hp
  obtain ⟨hx, hb, hml, hown, hts, hK, hSt, hR, hlk⟩ := o
  intro H locs ls hP hD hS hl
  exact W.vret hx hb hr (fun t ht hW => ⟨⟨g', rfl, hp, zIn_of hP hD hK hSt hS ht hW⟩, hS.F ht⟩) hS.2.2 hd hlk
theorem zCr_of {B : zB} {g : Nat → va_E} {y : MethodName} {cc : ByteArray} {nL d : Nat} {ret : Option FieldType} {av : List Value} {post : Nat → (Nat → va_E) → Prop} (hy : plainName y.cls = true) (hn : (lg_sl av).length ≤ nL) (rt : FieldType) (hret : ret = some rt) (hrt : (∃ n, rt = .object n) ∨ ∃ t, rt = .array t)
    (body : ∀ X : zX, zOk X B y.cls cc nL d → (∀ (r : Nat) (g' : Nat → va_E) (pc : Nat) (lv : List (Nat × Value)), decode cc pc = .ok (.areturn, 1) → post r g' → zW X B g' pc lv [.ref r]) → zW X B g 0 (lv_args 0 av) []) : zCr B g y cc nL ret d av post := by
  intro l
  refine zBody hy hn (fun p l e s m below meth c hr _ o => body _ o ?_) l
  intro r g' pc lv hd hp
  obtain ⟨hx, hb, hml, hown, hts, hK, hSt, hR, hlk⟩ := o
  intro H locs ls hP hD hS hl
  exact W.aret hx hb (hr.trans hret) hrt (Or.inr ⟨r, rfl⟩) (fun t ht hW => ⟨⟨(r, g'), r, rfl, hp, rfl, zIn_of hP hD hK hSt hS ht hW⟩, hS.F ht⟩) hS.2.2 hd hlk
/-! calls -/
theorem zGood {y : MethodName} {bytes : ByteArray} {maxL : Nat} {ret : Option FieldType} (h : Cond.code y bytes maxL ret ∈ zTB) : GoodIn zTB (Cond.code y bytes maxL ret :: zTB) := by
  intro w hw
  rcases List.mem_cons.mp hw with rfl | hw
  · exact ⟨h, zTB_good h⟩
  · exact ⟨hw, zTB_good hw⟩
theorem zGoodV {own : String} {ix : Nat} {y : MethodName} {bytes : ByteArray} {maxL n : Nat} {ret : Option FieldType} (h : zVw own ix y bytes maxL ret n) : GoodIn zTB (wsV own ix y.cls y (Cond.code y bytes maxL ret :: zTB)) := by
  intro w hw
  have hz : w ∈ zTB ∨ w ∈ (Cond.code y bytes maxL ret :: zTB) := by
    rcases List.mem_append.mp hw with h1 | h1
    · simp only [List.mem_cons, List.not_mem_nil, or_false] at h1
      rcases h1 with rfl | rfl | rfl | rfl
      · exact Or.inl h.1
      · exact Or.inl h.2.1
      · exact Or.inl h.2.2.1
      · exact Or.inl h.2.2.2.1
    · exact Or.inr h1
  rcases hz with h1 | h1
  · exact ⟨h1, zTB_good h1⟩
  · exact zGood h.2.2.2.2.1 w h1
theorem zGoodS {own : String} {ix : Nat} {y : MethodName} {bytes : ByteArray} {maxL n : Nat} {ret : Option FieldType} (h : zSw own ix y bytes maxL ret n) : GoodIn zTB (va_wsS own ix y (Cond.code y bytes maxL ret :: zTB)) := by
  intro w hw
  have hz : w ∈ zTB ∨ w ∈ (Cond.code y bytes maxL ret :: zTB) := by
    rcases List.mem_append.mp hw with h1 | h1
    · simp only [List.mem_cons, List.not_mem_nil, or_false] at h1
      rcases h1 with rfl | rfl | rfl
      · exact Or.inl h.1
      · exact Or.inl h.2.1
      · exact Or.inl h.2.2.1
    · exact Or.inr h1
  rcases hz with h1 | h1
  · exact ⟨h1, zTB_good h1⟩
  · exact zGood h.2.2.2.1 w h1
theorem zRoom {R : Room} {d d' maxL k sl : Nat} (hR : d ≤ R.frames ∧ 60 * d ≤ R.locals ∧ k ≤ R.cells ∧ sl ≤ R.slots) (h : d' < d) (hm : maxL ≤ 41) : (zR d').frames + 1 ≤ R.frames ∧ 8 + (maxL + 11) + (zR d').locals ≤ R.locals := by
  refine ⟨?_, ?_⟩
  · show d' + 1 ≤ R.frames
    omega
  · show 8 + (maxL + 11) + 60 * d' ≤ R.locals
    omega

theorem z_callVi {X : zX} {B : zB} {g : Nat → va_E} {own : String} {cc : ByteArray} {nL d pc : Nat} {lv : List (Nat × Value)} {st : List Value} {ix maxL n d1 : Nat} {y : MethodName} {bytes : ByteArray} {ret : Option FieldType} {As st0 : List Value} {i ci : Nat} {fs : List Value} {post : Int32 → (Nat → va_E) → Prop} (o : zOk X B own cc nL d) (hd : decode cc pc = .ok (.invokevirtual ix, 3)) (hC : zCi B g y bytes maxL ret d1 (zref B i :: As) post) (hw : zVw own ix y bytes maxL ret n) (hdd : d1 < d) (hi : i < znn B) (he : g i = .inr (ci, fs)) (hci : zcl[ci]?.map (fun q => q.1) = some y.cls) (hn : As.length = n) (hst : st0 = As.reverse ++ zref B i :: st) (hcat : (st.map fun v => v.category).sum ≤ 8) (kk : ∀ (r : Int32) (g1 : Nat → va_E), post r g1 → zW X B g1 (pc + 3) lv (.int r :: st)) : zW X B g pc lv st0 := by
  obtain ⟨p, l, e, R, s, m, args, below, meth, c, Q, k1, sl1⟩ := X
  obtain ⟨hx, hb, hml, hown, hts, hK, hSt, hR, hlk⟩ := o
  intro H locs ls hP hD hS hl
  have hrc : ∃ cell : Cell, H[zad B i]? = some cell ∧ cell.vm.isStatics = false ∧ s.vm.findClass y.cls = some cell.cls := by
    cases hq : zcl[ci]? with
    | none => rw [hq] at hci; cases hci
    | some q =>
      rw [hq] at hci
      have h9 := va_recv hK hP hq (zwl_e hi he)
      rw [show q.1 = y.cls from Option.some.inj hci] at h9
      exact h9
  refine va_calli (va_runV (As := As) (rest := st) ⟨hx, hb, hml, hown, hts⟩ (hC l) (cwV n hts (zGoodV hw) rfl rfl rfl ⟨rfl, hw.2.2.2.2.2.1⟩ (zRoom hR hdd hw.2.2.2.2.2.2)) ⟨zIn_blind, hrc, fun U hU hW => ⟨rfl, zIn_of hP hD hK hSt hS hU hW⟩⟩ rfl hn (hl.1.trans hml) hst (lv_room hcat) hd ⟨hR.2.2.1, hR.2.2.2⟩) hS (fun q _ h => h) (fun q h => h) (fun r u t H1 locs1 ht hvm hp hb1 hz1 hk1 hS1 => ?_)
  obtain ⟨i1, i2, i3, i4⟩ := hb1
  rw [ht] at i1
  exact kk r u hp H1 locs1 ls i1 i2 hS1 hl
theorem z_callSi {X : zX} {B : zB} {g : Nat → va_E} {own : String} {cc : ByteArray} {nL d pc : Nat} {lv : List (Nat × Value)} {st : List Value} {ix maxL n d1 : Nat} {y : MethodName} {bytes : ByteArray} {ret : Option FieldType} {As st0 : List Value} {post : Int32 → (Nat → va_E) → Prop} (o : zOk X B own cc nL d) (hd : decode cc pc = .ok (.invokestatic ix, 3)) (hC : zCi B g y bytes maxL ret d1 As post) (hw : zSw own ix y bytes maxL ret n) (hdd : d1 < d) (hn : As.length = n) (hst : st0 = As.reverse ++ st) (hcat : (st.map fun v => v.category).sum ≤ 8) (kk : ∀ (r : Int32) (g1 : Nat → va_E), post r g1 → zW X B g1 (pc + 3) lv (.int r :: st)) : zW X B g pc lv st0 := by
  obtain ⟨p, l, e, R, s, m, args, below, meth, c, Q, k1, sl1⟩ := X
  obtain ⟨hx, hb, hml, hown, hts, hK, hSt, hR, hlk⟩ := o
  intro H locs ls hP hD hS hl
  refine va_calli (va_runS (As := As) (rest := st) ⟨hx, hb, hml, hown, hts⟩ (hC l) (va_cwS n hts (zGoodS hw) rfl rfl rfl hw.2.2.2.2.1 (zRoom hR hdd hw.2.2.2.2.2)) ⟨zIn_blind, fun U hU hW => ⟨rfl, zIn_of hP hD hK hSt hS hU hW⟩⟩ rfl hn (hl.1.trans hml) hst (lv_room hcat) hd ⟨hR.2.2.1, hR.2.2.2⟩) hS (fun q _ h => h) (fun q h => h) (fun r u t H1 locs1 ht hvm hp hb1 hz1 hk1 hS1 => ?_)
  obtain ⟨i1, i2, i3, i4⟩ := hb1
  rw [ht] at i1
  exact kk r u hp H1 locs1 ls i1 i2 hS1 hl
theorem z_callNi {X : zX} {B : zB} {g : Nat → va_E} {own : String} {cc : ByteArray} {nL d pc : Nat} {lv : List (Nat × Value)} {st : List Value} {ix maxL n d1 : Nat} {y : MethodName} {bytes : ByteArray} {ret : Option FieldType} {As st0 : List Value} {host : String} {post : Int32 → (Nat → va_E) → Prop} (o : zOk X B own cc nL d) (hd : decode cc pc = .ok (.invokestatic ix, 3)) (hC : zCi B g y bytes maxL ret d1 As post) (hw : zNw own ix y host bytes maxL ret n) (hdd : d1 < d) (hn : As.length = n) (hst : st0 = As.reverse ++ st) (hcat : (st.map fun v => v.category).sum ≤ 8) (kk : ∀ (r : Int32) (g1 : Nat → va_E), post r g1 → zW X B g1 (pc + 3) lv (.int r :: st)) : zW X B g pc lv st0 := by
  obtain ⟨p, l, e, R, s, m, args, below, meth, c, Q, k1, sl1⟩ := X
  obtain ⟨hx, hb, hml, hown, hts, hK, hSt, hR, hlk⟩ := o
  intro H locs ls hP hD hS hl
  refine va_calli (va_runSN (As := As) (rest := st) ⟨hx, hb, hml, hown, hts⟩ (hC l) ⟨va_cnB n hts (zGood hw.2.2.2.1) rfl rfl rfl (hSt.2.2.2.2.2.2.2 _ hw.1) (hts _ hw.2.2.1) hw.2.2.2.2.1 (zRoom hR hdd hw.2.2.2.2.2), hts _ hw.2.1, trivial⟩ ⟨zIn_blind, fun U hU hW => ⟨rfl, zIn_of hP hD hK hSt hS hU hW⟩⟩ rfl hn (hl.1.trans hml) hst (lv_room hcat) hd ⟨hR.2.2.1, hR.2.2.2⟩) hS (fun q _ h => h) (fun q h => h) (fun r u t H1 locs1 ht hvm hp hb1 hz1 hk1 hS1 => ?_)
  obtain ⟨i1, i2, i3, i4⟩ := hb1
  rw [ht] at i1
  exact kk r u hp H1 locs1 ls i1 i2 hS1 hl
theorem z_callVl {X : zX} {B : zB} {g : Nat → va_E} {own : String} {cc : ByteArray} {nL d pc : Nat} {lv : List (Nat × Value)} {st : List Value} {ix maxL n d1 : Nat} {y : MethodName} {bytes : ByteArray} {ret : Option FieldType} {As st0 : List Value} {i ci : Nat} {fs : List Value} {post : Int64 → (Nat → va_E) → Prop} (o : zOk X B own cc nL d) (hd : decode cc pc = .ok (.invokevirtual ix, 3)) (hC : zCl B g y bytes maxL ret d1 (zref B i :: As) post) (hw : zVw own ix y bytes maxL ret n) (hdd : d1 < d) (hi : i < znn B) (he : g i = .inr (ci, fs)) (hci : zcl[ci]?.map (fun q => q.1) = some y.cls) (hn : As.length = n) (hst : st0 = As.reverse ++ zref B i :: st) (hcat : (st.map fun v => v.category).sum ≤ 8) (kk : ∀ (r : Int64) (g1 : Nat → va_E), post r g1 → zW X B g1 (pc + 3) lv (.long r :: st)) : zW X B g pc lv st0 := by
  obtain ⟨p, l, e, R, s, m, args, below, meth, c, Q, k1, sl1⟩ := X
  obtain ⟨hx, hb, hml, hown, hts, hK, hSt, hR, hlk⟩ := o
  intro H locs ls hP hD hS hl
  have hrc : ∃ cell : Cell, H[zad B i]? = some cell ∧ cell.vm.isStatics = false ∧ s.vm.findClass y.cls = some cell.cls := by
    cases hq : zcl[ci]? with
    | none => rw [hq] at hci; cases hci
    | some q =>
      rw [hq] at hci
      have h9 := va_recv hK hP hq (zwl_e hi he)
      rw [show q.1 = y.cls from Option.some.inj hci] at h9
      exact h9
  refine va_calll (va_runV (As := As) (rest := st) ⟨hx, hb, hml, hown, hts⟩ (hC l) (cwV n hts (zGoodV hw) rfl rfl rfl ⟨rfl, hw.2.2.2.2.2.1⟩ (zRoom hR hdd hw.2.2.2.2.2.2)) ⟨zIn_blind, hrc, fun U hU hW => ⟨rfl, zIn_of hP hD hK hSt hS hU hW⟩⟩ rfl hn (hl.1.trans hml) hst (lv_room hcat) hd ⟨hR.2.2.1, hR.2.2.2⟩) hS (fun q _ h => h) (fun q h => h) (fun r u t H1 locs1 ht hvm hp hb1 hz1 hk1 hS1 => ?_)
  obtain ⟨i1, i2, i3, i4⟩ := hb1
  rw [ht] at i1
  exact kk r u hp H1 locs1 ls i1 i2 hS1 hl
theorem z_callSl {X : zX} {B : zB} {g : Nat → va_E} {own : String} {cc : ByteArray} {nL d pc : Nat} {lv : List (Nat × Value)} {st : List Value} {ix maxL n d1 : Nat} {y : MethodName} {bytes : ByteArray} {ret : Option FieldType} {As st0 : List Value} {post : Int64 → (Nat → va_E) → Prop} (o : zOk X B own cc nL d) (hd : decode cc pc = .ok (.invokestatic ix, 3)) (hC : zCl B g y bytes maxL ret d1 As post) (hw : zSw own ix y bytes maxL ret n) (hdd : d1 < d) (hn : As.length = n) (hst : st0 = As.reverse ++ st) (hcat : (st.map fun v => v.category).sum ≤ 8) (kk : ∀ (r : Int64) (g1 : Nat → va_E), post r g1 → zW X B g1 (pc + 3) lv (.long r :: st)) : zW X B g pc lv st0 := by
  obtain ⟨p, l, e, R, s, m, args, below, meth, c, Q, k1, sl1⟩ := X
  obtain ⟨hx, hb, hml, hown, hts, hK, hSt, hR, hlk⟩ := o
  intro H locs ls hP hD hS hl
  refine va_calll (va_runS (As := As) (rest := st) ⟨hx, hb, hml, hown, hts⟩ (hC l) (va_cwS n hts (zGoodS hw) rfl rfl rfl hw.2.2.2.2.1 (zRoom hR hdd hw.2.2.2.2.2)) ⟨zIn_blind, fun U hU hW => ⟨rfl, zIn_of hP hD hK hSt hS hU hW⟩⟩ rfl hn (hl.1.trans hml) hst (lv_room hcat) hd ⟨hR.2.2.1, hR.2.2.2⟩) hS (fun q _ h => h) (fun q h => h) (fun r u t H1 locs1 ht hvm hp hb1 hz1 hk1 hS1 => ?_)
  obtain ⟨i1, i2, i3, i4⟩ := hb1
  rw [ht] at i1
  exact kk r u hp H1 locs1 ls i1 i2 hS1 hl
theorem z_callNl {X : zX} {B : zB} {g : Nat → va_E} {own : String} {cc : ByteArray} {nL d pc : Nat} {lv : List (Nat × Value)} {st : List Value} {ix maxL n d1 : Nat} {y : MethodName} {bytes : ByteArray} {ret : Option FieldType} {As st0 : List Value} {host : String} {post : Int64 → (Nat → va_E) → Prop} (o : zOk X B own cc nL d) (hd : decode cc pc = .ok (.invokestatic ix, 3)) (hC : zCl B g y bytes maxL ret d1 As post) (hw : zNw own ix y host bytes maxL ret n) (hdd : d1 < d) (hn : As.length = n) (hst : st0 = As.reverse ++ st) (hcat : (st.map fun v => v.category).sum ≤ 8) (kk : ∀ (r : Int64) (g1 : Nat → va_E), post r g1 → zW X B g1 (pc + 3) lv (.long r :: st)) : zW X B g pc lv st0 := by
  obtain ⟨p, l, e, R, s, m, args, below, meth, c, Q, k1, sl1⟩ := X
  obtain ⟨hx, hb, hml, hown, hts, hK, hSt, hR, hlk⟩ := o
  intro H locs ls hP hD hS hl
  refine va_calll (va_runSN (As := As) (rest := st) ⟨hx, hb, hml, hown, hts⟩ (hC l) ⟨va_cnB n hts (zGood hw.2.2.2.1) rfl rfl rfl (hSt.2.2.2.2.2.2.2 _ hw.1) (hts _ hw.2.2.1) hw.2.2.2.2.1 (zRoom hR hdd hw.2.2.2.2.2), hts _ hw.2.1, trivial⟩ ⟨zIn_blind, fun U hU hW => ⟨rfl, zIn_of hP hD hK hSt hS hU hW⟩⟩ rfl hn (hl.1.trans hml) hst (lv_room hcat) hd ⟨hR.2.2.1, hR.2.2.2⟩) hS (fun q _ h => h) (fun q h => h) (fun r u t H1 locs1 ht hvm hp hb1 hz1 hk1 hS1 => ?_)
  obtain ⟨i1, i2, i3, i4⟩ := hb1
  rw [ht] at i1
  exact kk r u hp H1 locs1 ls i1 i2 hS1 hl
theorem z_callVv {X : zX} {B : zB} {g : Nat → va_E} {own : String} {cc : ByteArray} {nL d pc : Nat} {lv : List (Nat × Value)} {st : List Value} {ix maxL n d1 : Nat} {y : MethodName} {bytes : ByteArray} {ret : Option FieldType} {As st0 : List Value} {i ci : Nat} {fs : List Value} {post : (Nat → va_E) → Prop} (o : zOk X B own cc nL d) (hd : decode cc pc = .ok (.invokevirtual ix, 3)) (hC : zCv B g y bytes maxL ret d1 (zref B i :: As) post) (hw : zVw own ix y bytes maxL ret n) (hdd : d1 < d) (hi : i < znn B) (he : g i = .inr (ci, fs)) (hci : zcl[ci]?.map (fun q => q.1) = some y.cls) (hn : As.length = n) (hst : st0 = As.reverse ++ zref B i :: st) (hcat : (st.map fun v => v.category).sum ≤ 8) (kk : ∀ (g1 : Nat → va_E), post g1 → zW X B g1 (pc + 3) lv (st)) : zW X B g pc lv st0 := by
  obtain ⟨p, l, e, R, s, m, args, below, meth, c, Q, k1, sl1⟩ := X
  obtain ⟨hx, hb, hml, hown, hts, hK, hSt, hR, hlk⟩ := o
  intro H locs ls hP hD hS hl
  have hrc : ∃ cell : Cell, H[zad B i]? = some cell ∧ cell.vm.isStatics = false ∧ s.vm.findClass y.cls = some cell.cls := by
    cases hq : zcl[ci]? with
    | none => rw [hq] at hci; cases hci
    | some q =>
      rw [hq] at hci
      have h9 := va_recv hK hP hq (zwl_e hi he)
      rw [show q.1 = y.cls from Option.some.inj hci] at h9
      exact h9
  refine va_callv (va_runV (As := As) (rest := st) ⟨hx, hb, hml, hown, hts⟩ (hC l) (cwV n hts (zGoodV hw) rfl rfl rfl ⟨rfl, hw.2.2.2.2.2.1⟩ (zRoom hR hdd hw.2.2.2.2.2.2)) ⟨zIn_blind, hrc, fun U hU hW => ⟨rfl, zIn_of hP hD hK hSt hS hU hW⟩⟩ rfl hn (hl.1.trans hml) hst (lv_room hcat) hd ⟨hR.2.2.1, hR.2.2.2⟩) hS (fun q _ h => h) (fun q h => h) (fun u t H1 locs1 ht hvm hp hb1 hz1 hk1 hS1 => ?_)
  obtain ⟨i1, i2, i3, i4⟩ := hb1
  rw [ht] at i1
  exact kk u hp H1 locs1 ls i1 i2 hS1 hl
theorem z_callSv {X : zX} {B : zB} {g : Nat → va_E} {own : String} {cc : ByteArray} {nL d pc : Nat} {lv : List (Nat × Value)} {st : List Value} {ix maxL n d1 : Nat} {y : MethodName} {bytes : ByteArray} {ret : Option FieldType} {As st0 : List Value} {post : (Nat → va_E) → Prop} (o : zOk X B own cc nL d) (hd : decode cc pc = .ok (.invokestatic ix, 3)) (hC : zCv B g y bytes maxL ret d1 As post) (hw : zSw own ix y bytes maxL ret n) (hdd : d1 < d) (hn : As.length = n) (hst : st0 = As.reverse ++ st) (hcat : (st.map fun v => v.category).sum ≤ 8) (kk : ∀ (g1 : Nat → va_E), post g1 → zW X B g1 (pc + 3) lv (st)) : zW X B g pc lv st0 := by
  obtain ⟨p, l, e, R, s, m, args, below, meth, c, Q, k1, sl1⟩ := X
  obtain ⟨hx, hb, hml, hown, hts, hK, hSt, hR, hlk⟩ := o
  intro H locs ls hP hD hS hl
  refine va_callv (va_runS (As := As) (rest := st) ⟨hx, hb, hml, hown, hts⟩ (hC l) (va_cwS n hts (zGoodS hw) rfl rfl rfl hw.2.2.2.2.1 (zRoom hR hdd hw.2.2.2.2.2)) ⟨zIn_blind, fun U hU hW => ⟨rfl, zIn_of hP hD hK hSt hS hU hW⟩⟩ rfl hn (hl.1.trans hml) hst (lv_room hcat) hd ⟨hR.2.2.1, hR.2.2.2⟩) hS (fun q _ h => h) (fun q h => h) (fun u t H1 locs1 ht hvm hp hb1 hz1 hk1 hS1 => ?_)
  obtain ⟨i1, i2, i3, i4⟩ := hb1
  rw [ht] at i1
  exact kk u hp H1 locs1 ls i1 i2 hS1 hl
theorem z_callNv {X : zX} {B : zB} {g : Nat → va_E} {own : String} {cc : ByteArray} {nL d pc : Nat} {lv : List (Nat × Value)} {st : List Value} {ix maxL n d1 : Nat} {y : MethodName} {bytes : ByteArray} {ret : Option FieldType} {As st0 : List Value} {host : String} {post : (Nat → va_E) → Prop} (o : zOk X B own cc nL d) (hd : decode cc pc = .ok (.invokestatic ix, 3)) (hC : zCv B g y bytes maxL ret d1 As post) (hw : zNw own ix y host bytes maxL ret n) (hdd : d1 < d) (hn : As.length = n) (hst : st0 = As.reverse ++ st) (hcat : (st.map fun v => v.category).sum ≤ 8) (kk : ∀ (g1 : Nat → va_E), post g1 → zW X B g1 (pc + 3) lv (st)) : zW X B g pc lv st0 := by
  obtain ⟨p, l, e, R, s, m, args, below, meth, c, Q, k1, sl1⟩ := X
  obtain ⟨hx, hb, hml, hown, hts, hK, hSt, hR, hlk⟩ := o
  intro H locs ls hP hD hS hl
  refine va_callv (va_runSN (As := As) (rest := st) ⟨hx, hb, hml, hown, hts⟩ (hC l) ⟨va_cnB n hts (zGood hw.2.2.2.1) rfl rfl rfl (hSt.2.2.2.2.2.2.2 _ hw.1) (hts _ hw.2.2.1) hw.2.2.2.2.1 (zRoom hR hdd hw.2.2.2.2.2), hts _ hw.2.1, trivial⟩ ⟨zIn_blind, fun U hU hW => ⟨rfl, zIn_of hP hD hK hSt hS hU hW⟩⟩ rfl hn (hl.1.trans hml) hst (lv_room hcat) hd ⟨hR.2.2.1, hR.2.2.2⟩) hS (fun q _ h => h) (fun q h => h) (fun u t H1 locs1 ht hvm hp hb1 hz1 hk1 hS1 => ?_)
  obtain ⟨i1, i2, i3, i4⟩ := hb1
  rw [ht] at i1
  exact kk u hp H1 locs1 ls i1 i2 hS1 hl
theorem z_callSr {X : zX} {B : zB} {g : Nat → va_E} {own : String} {cc : ByteArray} {nL d pc : Nat} {lv : List (Nat × Value)} {st : List Value} {ix maxL n d1 : Nat} {y : MethodName} {bytes : ByteArray} {ret : Option FieldType} {As st0 : List Value} {post : Nat → (Nat → va_E) → Prop} (o : zOk X B own cc nL d) (hd : decode cc pc = .ok (.invokestatic ix, 3)) (hC : zCr B g y bytes maxL ret d1 As post) (hw : zSw own ix y bytes maxL ret n) (hdd : d1 < d) (hn : As.length = n) (hst : st0 = As.reverse ++ st) (hcat : (st.map fun v => v.category).sum ≤ 8) (kk : ∀ (r : Nat) (g1 : Nat → va_E), post r g1 → zW X B g1 (pc + 3) lv (.ref r :: st)) : zW X B g pc lv st0 := by
  obtain ⟨p, l, e, R, s, m, args, below, meth, c, Q, k1, sl1⟩ := X
  obtain ⟨hx, hb, hml, hown, hts, hK, hSt, hR, hlk⟩ := o
  intro H locs ls hP hD hS hl
  refine va_callr (va_runS (As := As) (rest := st) ⟨hx, hb, hml, hown, hts⟩ (hC l) (va_cwS n hts (zGoodS hw) rfl rfl rfl hw.2.2.2.2.1 (zRoom hR hdd hw.2.2.2.2.2)) ⟨zIn_blind, fun U hU hW => ⟨rfl, zIn_of hP hD hK hSt hS hU hW⟩⟩ rfl hn (hl.1.trans hml) hst (lv_room hcat) hd ⟨hR.2.2.1, hR.2.2.2⟩) hS (fun q _ h => h) (fun q h => h) (fun u ra t H1 locs1 ht hvm hp hb1 hz1 hk1 hS1 => ?_)
  obtain ⟨hra, i1, i2, i3, i4⟩ := hb1
  rw [ht] at i1
  rw [← hra]
  exact kk u.1 u.2 hp H1 locs1 ls i1 i2 hS1 hl
theorem z_mmax {X : zX} {B : zB} {g : Nat → va_E} {own : String} {cc : ByteArray} {nL d pc : Nat} {lv : List (Nat × Value)} {st : List Value} {ix : Nat} {x y : Int32} (o : zOk X B own cc nL d) (hd : decode cc pc = .ok (.invokestatic ix, 3)) (h1 : Cond.methodLink own ix Lib.Math.max.name ∈ zTB) (h2 : Cond.static Lib.Math.max.name ∈ zTB) (h3 : Cond.initialized "java/lang/Math" ∈ zTB) (h4 : Cond.code Lib.Math.max.name Lib.Math.max.code 2 (some .int) ∈ zTB) (hdd : 0 < d) (hcat : (st.map fun v => v.category).sum ≤ 8) (kk : zW X B g (pc + 3) lv (.int (if x < y then y else x) :: st)) : zW X B g pc lv (.int y :: .int x :: st) := by
  obtain ⟨p, l, e, R, s, m, args, below, meth, c, Q, k1, sl1⟩ := X
  obtain ⟨hx, hb, hml, hown, hts, hK, hSt, hR, hlk⟩ := o
  intro H locs ls hP hD hS hl
  exact va_mmax hx hb (hl.1.symm) hown (hts _ h1) (hts _ h2) (hts _ h3) (hts _ h4) (by omega) (by omega) hR.2.2.1 hR.2.2.2 hd (kk H locs ls hP hD hS hl)
theorem z_mmin {X : zX} {B : zB} {g : Nat → va_E} {own : String} {cc : ByteArray} {nL d pc : Nat} {lv : List (Nat × Value)} {st : List Value} {ix : Nat} {x y : Int32} (o : zOk X B own cc nL d) (hd : decode cc pc = .ok (.invokestatic ix, 3)) (h1 : Cond.methodLink own ix Lib.Math.min.name ∈ zTB) (h2 : Cond.static Lib.Math.min.name ∈ zTB) (h3 : Cond.initialized "java/lang/Math" ∈ zTB) (h4 : Cond.code Lib.Math.min.name Lib.Math.min.code 2 (some .int) ∈ zTB) (hdd : 0 < d) (hcat : (st.map fun v => v.category).sum ≤ 8) (kk : zW X B g (pc + 3) lv (.int (if y < x then y else x) :: st)) : zW X B g pc lv (.int y :: .int x :: st) := by
  obtain ⟨p, l, e, R, s, m, args, below, meth, c, Q, k1, sl1⟩ := X
  obtain ⟨hx, hb, hml, hown, hts, hK, hSt, hR, hlk⟩ := o
  intro H locs ls hP hD hS hl
  exact va_mmin hx hb (hl.1.symm) hown (hts _ h1) (hts _ h2) (hts _ h3) (hts _ h4) (by omega) (by omega) hR.2.2.1 hR.2.2.2 hd (kk H locs ls hP hD hS hl)
theorem z_copyi {X : zX} {B : zB} {g : Nat → va_E} {own : String} {cc : ByteArray} {nL d pc : Nat} {lv : List (Nat × Value)} {st : List Value} {ix i0 i1 n0 n1 : Nat} {f g1 : Nat → Int32} {sp dp n : Int32} (o : zOk X B own cc nL d) (hd : decode cc pc = .ok (.invokestatic ix, 3)) (h1 : Cond.methodLink own ix arraycopyName ∈ zTB) (h2 : Cond.native arraycopyName ∈ zTB) (h3 : Cond.static arraycopyName ∈ zTB) (h4 : Cond.initialized "java/lang/System" ∈ zTB) (hi0 : i0 < znn B) (hi1 : i1 < znn B) (he0 : g i0 = .inl (zcy B 1, n0, .inl f)) (he1 : g i1 = .inl (zcy B 1, n1, .inl g1)) (p1 : ¬ sp < 0) (p2 : ¬ dp < 0) (p3 : ¬ n < 0) (p4 : sp.toNatClampNeg + n.toNatClampNeg ≤ n0) (p5 : dp.toNatClampNeg + n.toNatClampNeg ≤ n1) (hdd : 0 < d) (hcat : (st.map fun v => v.category).sum ≤ 8) (kk : zW X B (va_up g i1 (.inl (zcy B 1, n1, .inl (va_cpy f g1 sp.toNatClampNeg dp.toNatClampNeg n.toNatClampNeg)))) (pc + 3) lv st) : zW X B g pc lv (.int n :: .int dp :: zref B i1 :: .int sp :: zref B i0 :: st) := by
  obtain ⟨p, l, e, R, s, m, args, below, meth, c, Q, k1, sl1⟩ := X
  obtain ⟨hx, hb, hml, hown, hts, hK, hSt, hR, hlk⟩ := o
  intro H locs ls hP hD hS hl
  have h9 : nativeFrameWords "java/lang/System" "arraycopy" 5 = 7 := by decide +kernel
  have h8 : (st.map fun v => v.category).sum + (nativeFrameWords "java/lang/System" "arraycopy" 5 + 11) ≤ R.locals := by rw [h9]; omega
  exact va_copyi (D := B.1) (ty := .int) hx hb (hl.1.symm) hown (hts _ h1) (hts _ h2) (hts _ h3) (hts _ h4) hK hP hD hS i0 i1 1 1 (zwl_e hi0 he0) (zwl_e hi1 he1) rfl rfl rfl p1 p2 p3 p4 p5 (fun _ _ => rfl) (by omega) h8 hd (fun H1 locs1 hP1 hD1 hS1 => kk H1 locs1 ls (by rw [zwl_set hi1] at hP1; exact hP1) (by rw [zwl_set hi1] at hD1; exact hD1) hS1 hl)
theorem z_copyb {X : zX} {B : zB} {g : Nat → va_E} {own : String} {cc : ByteArray} {nL d pc : Nat} {lv : List (Nat × Value)} {st : List Value} {ix i0 i1 n0 n1 : Nat} {f g1 : Nat → Int32} {sp dp n : Int32} (o : zOk X B own cc nL d) (hd : decode cc pc = .ok (.invokestatic ix, 3)) (h1 : Cond.methodLink own ix arraycopyName ∈ zTB) (h2 : Cond.native arraycopyName ∈ zTB) (h3 : Cond.static arraycopyName ∈ zTB) (h4 : Cond.initialized "java/lang/System" ∈ zTB) (hi0 : i0 < znn B) (hi1 : i1 < znn B) (he0 : g i0 = .inl (zcy B 0, n0, .inl f)) (he1 : g i1 = .inl (zcy B 0, n1, .inl g1)) (p1 : ¬ sp < 0) (p2 : ¬ dp < 0) (p3 : ¬ n < 0) (p4 : sp.toNatClampNeg + n.toNatClampNeg ≤ n0) (p5 : dp.toNatClampNeg + n.toNatClampNeg ≤ n1) (hfit : ∀ i, i < n.toNatClampNeg → fits .byte (.int (f (sp.toNatClampNeg + i))) = true) (hdd : 0 < d) (hcat : (st.map fun v => v.category).sum ≤ 8) (kk : zW X B (va_up g i1 (.inl (zcy B 0, n1, .inl (va_cpy f g1 sp.toNatClampNeg dp.toNatClampNeg n.toNatClampNeg)))) (pc + 3) lv st) : zW X B g pc lv (.int n :: .int dp :: zref B i1 :: .int sp :: zref B i0 :: st) := by
  obtain ⟨p, l, e, R, s, m, args, below, meth, c, Q, k1, sl1⟩ := X
  obtain ⟨hx, hb, hml, hown, hts, hK, hSt, hR, hlk⟩ := o
  intro H locs ls hP hD hS hl
  have h9 : nativeFrameWords "java/lang/System" "arraycopy" 5 = 7 := by decide +kernel
  have h8 : (st.map fun v => v.category).sum + (nativeFrameWords "java/lang/System" "arraycopy" 5 + 11) ≤ R.locals := by rw [h9]; omega
  exact va_copyi (D := B.1) (ty := .byte) hx hb (hl.1.symm) hown (hts _ h1) (hts _ h2) (hts _ h3) (hts _ h4) hK hP hD hS i0 i1 0 0 (zwl_e hi0 he0) (zwl_e hi1 he1) rfl rfl rfl p1 p2 p3 p4 p5 hfit (by omega) h8 hd (fun H1 locs1 hP1 hD1 hS1 => kk H1 locs1 ls (by rw [zwl_set hi1] at hP1; exact hP1) (by rw [zwl_set hi1] at hD1; exact hD1) hS1 hl)
