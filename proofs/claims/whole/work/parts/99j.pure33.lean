/-! objects are made: worlds as lists -/
def zAO (U : State) : Prop := va_AO "WalkFences$Fence" U ∧ va_AO "WalkFences$Law" U ∧ va_AO "WalkFences$Sheet" U
theorem zAO.moved {u U : State} (hvm : u.vm.Alike U.vm) (h : zAO u) : zAO U := ⟨va_AO.moved hvm h.1, va_AO.moved hvm h.2.1, va_AO.moved hvm h.2.2⟩
def zV (X : zX) (B : zB) (ws : va_W) (pc : Nat) (lv : List (Nat × Value)) (st : List Value) : Prop := match X with
  | (p, l, e, R, s, m, args, below, meth, c, Q, k, sl) => ∀ (H : Heap) (locs : List Loc) (ls : Array Slot), va_P B.1 zcl ws H → va_D (zA (zlo B)) ws → va_S (zA (zlo B)) s.heap H locs → lv_has ls c.maxLocals lv → W p l e R s m args below meth c H locs k sl Q (F0 m pc ls st)
def zBw (B : zB) (ws : va_W) : zB := (B.1, B.2.1, B.2.2.1, fun i => (ws.getD i (0, .inr (0, []))).1, ws.length, B.2.2.2.2.2)
def gw (ws : va_W) : Nat → va_E := fun i => (ws.getD i (0, .inr (0, []))).2
theorem zwl_bw (ws : va_W) : zwl (fun i => (ws.getD i (0, .inr (0, []))).1) ws.length (gw ws) = ws := by
  apply List.ext_getElem?
  intro i
  by_cases h : i < ws.length
  · rw [zwl_at h]
    unfold gw
    rw [List.getD_eq_getElem?_getD, List.getElem?_eq_getElem h]
    rfl
  · rw [List.getElem?_eq_none (l := ws) (by omega), List.getElem?_eq_none (by unfold zwl; rw [List.length_map, List.length_range]; omega)]
theorem zV.of {X : zX} {B : zB} {ws : va_W} {pc : Nat} {lv : List (Nat × Value)} {st : List Value} (h : zW X (zBw B ws) (gw ws) pc lv st) : zV X B ws pc lv st := by
  obtain ⟨p, l, e, R, s, m, args, below, meth, c, Q, k1, sl1⟩ := X
  intro H locs ls hP hD hS hl
  refine h H locs ls ?_ ?_ hS hl
  · show va_P B.1 zcl (zwl (fun i => (ws.getD i (0, .inr (0, []))).1) ws.length (gw ws)) H
    rw [zwl_bw]; exact hP
  · show va_D (zA (zlo B)) (zwl (fun i => (ws.getD i (0, .inr (0, []))).1) ws.length (gw ws))
    rw [zwl_bw]; exact hD
theorem zV.to {X : zX} {B : zB} {ws : va_W} {pc : Nat} {lv : List (Nat × Value)} {st : List Value} (h : zV X B ws pc lv st) : zW X (zBw B ws) (gw ws) pc lv st := by
  obtain ⟨p, l, e, R, s, m, args, below, meth, c, Q, k1, sl1⟩ := X
  intro H locs ls hP hD hS hl
  have hP : va_P B.1 zcl (zwl (fun i => (ws.getD i (0, .inr (0, []))).1) ws.length (gw ws)) H := hP
  have hD : va_D (zA (zlo B)) (zwl (fun i => (ws.getD i (0, .inr (0, []))).1) ws.length (gw ws)) := hD
  rw [zwl_bw] at hP hD
  exact h H locs ls hP hD hS hl
theorem zOk.bw {X : zX} {B : zB} {own : String} {cc : ByteArray} {nL d : Nat} (ws : va_W) (o : zOk X B own cc nL d) : zOk X (zBw B ws) own cc nL d := by
  obtain ⟨p, l, e, R, s, m, args, below, meth, c, Q, k1, sl1⟩ := X
  exact o
/-- so much more has been made -/
def zXc (X : zX) (a b : Nat) : zX := match X with | (p, l, e, R, s, m, args, below, meth, c, Q, k, sl) => (p, l, e, R, s, m, args, below, meth, c, Q, k + a, sl + b)
def zRm (X : zX) (mc ms : Nat) : Prop := match X with | (p, l, e, R, s, m, args, below, meth, c, Q, k, sl) => k + mc ≤ R.cells ∧ sl + ms ≤ R.slots
def zAX (X : zX) : Prop := match X with | (p, l, e, R, s, m, args, below, meth, c, Q, k, sl) => zAO s
theorem zOk.xc {X : zX} {B : zB} {own : String} {cc : ByteArray} {nL d mc ms a b : Nat} (o : zOk X B own cc nL d) (hr : zRm X mc ms) (ha : a ≤ mc) (hb : b ≤ ms) : zOk (zXc X a b) B own cc nL d := by
  obtain ⟨p, l, e, R, s, m, args, below, meth, c, Q, k1, sl1⟩ := X
  obtain ⟨hx, hb9, hml, hown, hts, hK, hSt, hR, hlk⟩ := o
  obtain ⟨r1, r2⟩ := hr
  exact ⟨hx, hb9, hml, hown, hts, hK, hSt, ⟨hR.1, hR.2.1, by omega, by omega⟩, hlk⟩
theorem app_at {α : Type} {w0 L : List α} {j : Nat} {x : α} (h : L[j]? = some x) : (w0 ++ L)[w0.length + j]? = some x := by
  rw [List.getElem?_append_right (by omega), Nat.add_sub_cancel_left]; exact h
theorem app_set {α : Type} {w0 L : List α} {j : Nat} {x : α} : (w0 ++ L).set (w0.length + j) x = w0 ++ L.set j x := by
  rw [List.set_append_right _ _ (by omega), Nat.add_sub_cancel_left]
theorem zv_get {X : zX} {B : zB} {w0 L : va_W} {own : String} {cc : ByteArray} {nL d pc : Nat} {lv : List (Nat × Value)} {st : List Value} {ix ci k j a : Nat} {fs : List Value} {v : Value} (o : zOk X B own cc nL d) (hd : decode cc pc = .ok (.getfield ix, 3)) (hF : zFld own ix ci k) (he : L[j]? = some (a, .inr (ci, fs))) (hv : fs[k]? = some v) (kk : zV X B (w0 ++ L) (pc + 3) lv (v :: st)) : zV X B (w0 ++ L) pc lv (.ref a :: st) := by
  obtain ⟨p, l, e, R, s, m, args, below, meth, c, Q, k1, sl1⟩ := X
  obtain ⟨hx, hb, hml, hown, hts, hK, hSt, hR, hlk⟩ := o
  intro H locs ls hP hD hS hl
  obtain ⟨C, T, Nf, f1, f2, f3, f4⟩ := hF
  exact va_get (D := B.1) hx hb hts f3 hown hK hP (w0.length + j) (app_at he) f1 k f2 (hts _ f4) (fun _ h9 => h9) hv hd (kk H locs ls hP hD hS hl)
theorem zv_put {X : zX} {B : zB} {w0 L : va_W} {own : String} {cc : ByteArray} {nL d pc : Nat} {lv : List (Nat × Value)} {st : List Value} {ix ci k j a : Nat} {fs : List Value} {v : Value} {ty : FieldType} (o : zOk X B own cc nL d) (hd : decode cc pc = .ok (.putfield ix, 3)) (hF : zFldP own ix ci k ty) (he : L[j]? = some (a, .inr (ci, fs))) (hn : narrow ty v = v) (hfit : fits ty v = true) (hlen : k < fs.length) (kk : zV X B (w0 ++ L.set j (a, .inr (ci, fs.set k v))) (pc + 3) lv st) : zV X B (w0 ++ L) pc lv (v :: .ref a :: st) := by
  obtain ⟨p, l, e, R, s, m, args, below, meth, c, Q, k1, sl1⟩ := X
  obtain ⟨hx, hb, hml, hown, hts, hK, hSt, hR, hlk⟩ := o
  intro H locs ls hP hD hS hl
  obtain ⟨C, T, Nf, ty0, f1, f2, f3, f4, f5, f6, f7, f8⟩ := hF
  exact va_put (D := B.1) hx hb hts f3 ty0 f5 f6 hown hK hP hD hS (w0.length + j) (app_at he) f1 k f2 (hts _ f4) (fun _ h9 => h9) f7 f8 hn hfit hlen hd (fun H1 locs1 hP1 hD1 hS1 => kk H1 locs1 ls (by rw [app_set] at hP1; exact hP1) (by rw [app_set] at hD1; exact hD1) hS1 hl)
theorem zv_putF {X : zX} {B : zB} {w0 L : va_W} {own : String} {cc : ByteArray} {nL d pc : Nat} {lv : List (Nat × Value)} {st : List Value} {ix ci k j a : Nat} {fs : List Value} {v : Value} {ty : FieldType} (o : zOk X B own cc nL d) (hin : zInit X) (hd : decode cc pc = .ok (.putfield ix, 3)) (hF : zFldW own ix ci k ty true) (he : L[j]? = some (a, .inr (ci, fs))) (hn : narrow ty v = v) (hfit : fits ty v = true) (hlen : k < fs.length) (kk : zV X B (w0 ++ L.set j (a, .inr (ci, fs.set k v))) (pc + 3) lv st) : zV X B (w0 ++ L) pc lv (v :: .ref a :: st) := by
  obtain ⟨p, l, e, R, s, m, args, below, meth, c, Q, k1, sl1⟩ := X
  obtain ⟨hx, hb, hml, hown, hts, hK, hSt, hR, hlk⟩ := o
  intro H locs ls hP hD hS hl
  obtain ⟨C, T, Nf, ty0, f1, f2, f3, f4, f5, f6, f7, f8, f9⟩ := hF
  exact va_putF (D := B.1) hx hb hts f3 ty0 f5 f6 hown hK hP hD hS (w0.length + j) (app_at he) f1 k f2 (hts _ f4) (fun _ h9 => h9) f7 hin f9 f8 hn hfit hlen hd (fun H1 locs1 hP1 hD1 hS1 => kk H1 locs1 ls (by rw [app_set] at hP1; exact hP1) (by rw [app_set] at hD1; exact hD1) hS1 hl)
theorem RA_un {s : State} {c1 c2 : ClassId} {ty : FieldType} (h1 : va_RA s c1 ty) (h2 : va_RA s c2 ty) : c1 = c2 := by
  cases ty with
  | object C =>
    obtain ⟨-, -, -, -, -, a⟩ := h1
    obtain ⟨-, -, -, -, -, b⟩ := h2
    exact Option.some.inj (a.symm.trans b)
  | _ => exact Option.some.inj ((show s.vm.findClass _ = some c1 from h1).symm.trans h2)
theorem zv_new {X : zX} {B : zB} {ws : va_W} {own C : String} {T : u_T} {cc : ByteArray} {nL d pc Nf ix ci a b mc ms : Nat} {lv : List (Nat × Value)} {st : List Value} (ty : Nat → FieldType) (fs : List Value) (o : zOk X B own cc nL d) (hr : zRm X mc ms) (hd : decode cc pc = .ok (.new ix, 3)) (hcl : Cond.classLink own ix C ∈ zTB) (hi : Cond.instantiable C Nf ∈ zTB) (hini : Cond.initialized C ∈ zTB) (hc : zcl[ci]? = some (C, T, Nf)) (hin : ∀ w ∈ u_ws C T Nf, w ∈ zTB) (hty : ∀ k, k < Nf → parseFieldDescriptor (T k).2.2.1 = some (ty k)) (hfs : ∀ j, j < Nf → defaultValue (ty j) = vp_V fs j) (ha : a + 1 ≤ mc) (hb2 : b + Nf ≤ ms)
    (kk : ∀ q : Nat, zV (zXc X (a + 1) (b + Nf)) B (ws ++ [(q, .inr (ci, fs))]) (pc + 3) lv (.ref q :: st)) : zV (zXc X a b) B ws pc lv st := by
  obtain ⟨p, l, e, R, s, m, args, below, meth, c, Q, k1, sl1⟩ := X
  obtain ⟨hx, hb, hml, hown, hts, hK, hSt, hR, hlk⟩ := o
  obtain ⟨r1, r2⟩ := hr
  intro H locs ls hP hD hS hl
  refine va_new (D := B.1) (A := zA (zlo B)) hx hb hts hin ty hty hown (hts _ hcl) (hts _ hi) (hts _ hini) hK hP hD hS (fun q hq => Nat.le_trans hSt.2.2.1 hq) hc hfs (by omega) (by omega) hd (fun q H1 hP1 hD1 hS1 => ?_)
  have h9 := kk q H1 locs ls hP1 hD1 hS1 hl
  rw [← Nat.add_assoc, ← Nat.add_assoc] at h9
  exact h9
theorem zv_newa {X : zX} {B : zB} {ws : va_W} {own : String} {cc : ByteArray} {nL d pc t N' a b mc ms : Nat} {lv : List (Nat × Value)} {st : List Value} {atype : ArrayType} {ty : FieldType} {n : Int32} (a0 : vp_A) (o : zOk X B own cc nL d) (hr : zRm X mc ms) (hd : decode cc pc = .ok (.newarray atype, 2)) (hty : newarray.typeOf atype = ty) (harr : Cond.arrayClass ty ∈ zTB) (ht : (zty (zcy B))[t]? = some (zcy B t, ty)) (h0 : ∀ cA : ClassId, vp_cell cA a0 = arrV cA N' (fun _ => defaultValue ty)) (hn : ¬ n < 0) (hN : n.toNatClampNeg = N') (hby : N' * componentBytes ty ≤ 536870912) (ha : a + 1 ≤ mc) (hb2 : b + N' ≤ ms)
    (kk : ∀ q : Nat, zV (zXc X (a + 1) (b + N')) B (ws ++ [(q, .inl (zcy B t, a0))]) (pc + 2) lv (.ref q :: st)) : zV (zXc X a b) B ws pc lv (.int n :: st) := by
  obtain ⟨p, l, e, R, s, m, args, below, meth, c, Q, k1, sl1⟩ := X
  obtain ⟨hx, hb, hml, hown, hts, hK, hSt, hR, hlk⟩ := o
  obtain ⟨r1, r2⟩ := hr
  intro H locs ls hP hD hS hl
  refine va_newa (D := B.1) (A := zA (zlo B)) (atype := atype) hx hb (by rw [hty]; exact hts _ harr) hty hK hP hD hS (fun q hq => Nat.le_trans hSt.2.2.1 hq) h0 hn hN hby (by omega) (by omega) hd (fun q cA H1 hK1 hP1 hD1 hS1 => ?_)
  have e1 := (hK.2 t _ ht).2
  have hlen : (zty (zcy B)).length = 6 := rfl
  have e2 := (hK1.2 6 (cA, ty) (by rw [List.getElem?_append_right (by rw [hlen]; exact Nat.le_refl 6), hlen]; rfl)).2
  obtain rfl : zcy B t = cA := RA_un e1 e2
  have h9 := kk q H1 locs ls hP1 hD1 hS1 hl
  rw [← Nat.add_assoc, ← Nat.add_assoc] at h9
  exact h9
theorem zv_newq {X : zX} {B : zB} {ws : va_W} {own C : String} {cc : ByteArray} {nL d pc t N' a b mc ms ix : Nat} {lv : List (Nat × Value)} {st : List Value} {n : Int32} (o : zOk X B own cc nL d) (hr : zRm X mc ms) (hd : decode cc pc = .ok (.anewarray ix, 3)) (hcl : Cond.classLink own ix C ∈ zTB) (hov : zAX X → (match X with | (p, l, e, R, s, m, args, below, meth, c, Q, k, sl) => va_AO C s)) (hax : zAX X) (ht : (zty (zcy B))[t]? = some (zcy B t, .object C)) (hn : ¬ n < 0) (hN : n.toNatClampNeg = N') (hby : N' * 4 ≤ 536870912) (ha : a + 1 ≤ mc) (hb2 : b + N' ≤ ms)
    (kk : ∀ q : Nat, zV (zXc X (a + 1) (b + N')) B (ws ++ [(q, .inl (zcy B t, N', .inr (.inr (.inr (.inr (fun _ => none))))))]) (pc + 3) lv (.ref q :: st)) : zV (zXc X a b) B ws pc lv (.int n :: st) := by
  obtain ⟨p, l, e, R, s, m, args, below, meth, c, Q, k1, sl1⟩ := X
  obtain ⟨hx, hb, hml, hown, hts, hK, hSt, hR, hlk⟩ := o
  obtain ⟨r1, r2⟩ := hr
  intro H locs ls hP hD hS hl
  refine va_newq (D := B.1) (A := zA (zlo B)) hx hb hown (hts _ hcl) (hov hax) hK hP hD hS (fun q hq => Nat.le_trans hSt.2.2.1 hq) hn hN hby (by omega) (by omega) hd (fun q cA H1 hK1 hP1 hD1 hS1 => ?_)
  have e1 := (hK.2 t _ ht).2
  have hlen : (zty (zcy B)).length = 6 := rfl
  have e2 := (hK1.2 6 (cA, .object C) (by rw [List.getElem?_append_right (by rw [hlen]; exact Nat.le_refl 6), hlen]; rfl)).2
  obtain rfl : zcy B t = cA := RA_un e1 e2
  have h9 := kk q H1 locs ls hP1 hD1 hS1 hl
  rw [← Nat.add_assoc, ← Nat.add_assoc] at h9
  exact h9
theorem zv_aast {X : zX} {B : zB} {w0 L : va_W} {own : String} {cc : ByteArray} {nL d pc t j j2 a n v ci : Nat} {lv : List (Nat × Value)} {st : List Value} {C : String} {T : u_T} {Nf : Nat} {f : Nat → Option Nat} {vs : List Value} {i : Int32} (o : zOk X B own cc nL d) (hd : decode cc pc = .ok (.aastore, 1)) (he : L[j]? = some (a, .inl (zcy B t, n, .inr (.inr (.inr (.inr f)))))) (ht : (zty (zcy B))[t]? = some (zcy B t, .object C)) (hv : L[j2]? = some (v, .inr (ci, vs))) (hc : zcl[ci]? = some (C, T, Nf)) (hin : vp_in i n) (kk : zV X B (w0 ++ L.set j (a, .inl (zcy B t, n, .inr (.inr (.inr (.inr (va_up f i.toNatClampNeg (some v)))))))) (pc + 1) lv st) : zV X B (w0 ++ L) pc lv (.ref v :: .int i :: .ref a :: st) := by
  obtain ⟨p, l, e, R, s, m, args, below, meth, c, Q, k1, sl1⟩ := X
  obtain ⟨hx, hb, hml, hown, hts, hK, hSt, hR, hlk⟩ := o
  intro H locs ls hP hD hS hl
  exact va_astq (D := B.1) hx hb hK hP hD hS (w0.length + j) t (w0.length + j2) ci (app_at he) ht (app_at hv) hc hin hd (fun H1 locs1 hP1 hD1 hS1 => kk H1 locs1 ls (by rw [app_set] at hP1; exact hP1) (by rw [app_set] at hD1; exact hD1) hS1 hl)
theorem zv_iast {X : zX} {B : zB} {w0 L : va_W} {own : String} {cc : ByteArray} {nL d pc j a n : Nat} {lv : List (Nat × Value)} {st : List Value} {f : Nat → Int32} {i x : Int32} (o : zOk X B own cc nL d) (hd : decode cc pc = .ok (.iastore, 1)) (he : L[j]? = some (a, .inl (zcy B 1, n, .inl f))) (hin : vp_in i n) (kk : zV X B (w0 ++ L.set j (a, .inl (zcy B 1, n, .inl (upd f i.toNatClampNeg x)))) (pc + 1) lv st) : zV X B (w0 ++ L) pc lv (.int x :: .int i :: .ref a :: st) := by
  obtain ⟨p, l, e, R, s, m, args, below, meth, c, Q, k1, sl1⟩ := X
  obtain ⟨hx, hb, hml, hown, hts, hK, hSt, hR, hlk⟩ := o
  intro H locs ls hP hD hS hl
  exact va_iast (D := B.1) hx hb hK hP hD hS (w0.length + j) 1 (app_at he) rfl hin hd (fun H1 locs1 hP1 hD1 hS1 => kk H1 locs1 ls (by rw [app_set] at hP1; exact hP1) (by rw [app_set] at hD1; exact hD1) hS1 hl)
/-- Object's own -/
theorem zv_obj {X : zX} {B : zB} {ws : va_W} {own : String} {cc : ByteArray} {nL d pc ix a : Nat} {lv : List (Nat × Value)} {st : List Value} (o : zOk X B own cc nL d) (hd1 : 1 ≤ d) (hd : decode cc pc = .ok (.invokespecial ix, 3)) (h1 : Cond.methodLink own ix objectInit ∈ zTB) (h2 : Cond.instanceMethod objectInit ∈ zTB) (h3 : Cond.code objectInit ⟨#[0xb1]⟩ 1 none ∈ zTB) (hcat : (st.map fun v => v.category).sum ≤ 8) (kk : zV X B ws (pc + 3) lv st) : zV X B ws pc lv (.ref a :: st) := by
  obtain ⟨p, l, e, R, s, m, args, below, meth, c, Q, k1, sl1⟩ := X
  obtain ⟨hx, hb, hml, hown, hts, hK, hSt, hR, hlk⟩ := o
  intro H locs ls hP hD hS hl
  refine W.objInit hx hb hown (hts _ h1) (hts _ h2) (hts _ h3) rfl hl.1 rfl hd (by omega) (by have : (F0 m pc ls (Value.ref a :: st)).monitorRoom = 0 := rfl; omega) ?_
  exact kk H locs ls hP hD hS hl
/-- a world that a constructor finds and leaves -/
def zInW (B : zB) (ws : va_W) (U : State) : Prop := va_P B.1 zcl ws U.heap ∧ va_D (zA (zlo B)) ws ∧ va_K B.1 zcl (zty (zcy B)) U ∧ zSt B U ∧ zAO U
def zRc (d mc ms : Nat) : Room := { frames := d, cells := mc, slots := ms, locals := 60 * d }
def zCn (B : zB) (w0 : va_W) (a : Nat) (e0 : va_E) (y : MethodName) (cc : ByteArray) (nL d mc ms : Nat) (av : List Value) (post : va_W → Prop) : Prop := ∀ l : Launch, Met l y (.code y cc nL none :: zTB) (zRc d mc ms) (va_Pc av (zInW B (w0 ++ [(a, e0)]))) (va_Qv post (fun w t => zInW B (w0 ++ w) t) (zA (zlo B))) mc ms (zA (zlo B))
theorem zInW_blind {B : zB} {ws : va_W} {av : List Value} : FrameBlind (va_Pc av (zInW B ws)) := by
  intro a U gf mk h
  obtain ⟨h0, h1, h2, h3, h4, h5⟩ := h
  exact ⟨h0, h1, h2, va_K.moved (u := U) (U := U.calling gf mk a) (Vm.Alike.refl U.vm) h3, zSt_same h4 rfl rfl, h5.moved (Vm.Alike.refl U.vm)⟩
theorem zCn_of {B : zB} {w0 : va_W} {a : Nat} {e0 : va_E} {y : MethodName} {cc : ByteArray} {nL d mc ms : Nat} {av : List Value} {post : va_W → Prop} (hy : plainName y.cls = true) (hyn : y.name = "<init>") (hn : (lg_sl av).length ≤ nL)
    (body : ∀ X : zX, zOk X B y.cls cc nL d → zRm X mc ms → zAX X → zInit X → (∀ (w : va_W) (pc : Nat) (lv : List (Nat × Value)), decode cc pc = .ok (.return_, 1) → post w → zV (zXc X mc ms) B (w0 ++ w) pc lv []) → zV (zXc X 0 0) B (w0 ++ [(a, e0)]) 0 (lv_args 0 av) []) : zCn B w0 a e0 y cc nL d mc ms av post := by
  intro l
  refine Met.ofW (cc := cc) (maxL := nL) (ret := none) hy rfl ?_
  intro p e s m args below meth c s₁ Bo hml hv
  obtain ⟨rfl, hP, hD, hK, hSt, hAO⟩ := hv
  have hts0 := atoms_spec (ws := .code y cc nL none :: zTB) Bo.pre
  have hown : s.vm.findClass y.cls = some m.cls := findClass_of_methodNamed Bo.named
  have hnm : meth.name = y.name := (name_of_methodNamed Bo.named Bo.method).1
  have hl := lv_entry av (n := nL) hn
  rw [lg_entry_eq]
  generalize (lg_sl av ++ List.replicate (nL - (lg_sl av).length) Slot.unset).toArray = ls at hl ⊢
  have o : zOk (p, l, e, zRc d mc ms, s, m, av.toArray, below, meth, c, MQ below (va_Qv post (fun w t => zInW B (w0 ++ w) t) (zA (zlo B))) av.toArray s mc ms (zA (zlo B)), 0, 0) B y.cls cc nL d :=
    ⟨Bo.exec, Bo.bytes, hml, hown, fun w hw => hts0 w (List.mem_cons_of_mem _ hw), hK, hSt, ⟨Nat.le_refl _, Nat.le_refl _, Nat.zero_le _, Nat.zero_le _⟩, Bo.notSynchronized⟩
  refine body (p, l, e, zRc d mc ms, s, m, av.toArray, below, meth, c, MQ below (va_Qv post (fun w t => zInW B (w0 ++ w) t) (zA (zlo B))) av.toArray s mc ms (zA (zlo B)), 0, 0) o ⟨by show 0 + mc ≤ mc; omega, by show 0 + ms ≤ ms; omega⟩ hAO (hnm.trans hyn) ?_ s.heap [] ls hP hD va_S.rf (by rw [hml]; exact hl)
  intro w pc lv hd hp
  obtain ⟨hx, hb, hml, hown, hts, hK, hSt, hR, hlk⟩ := o
  intro H locs ls hP hD hS hl
  have e1 : 0 + mc = mc := Nat.zero_add _
  have e2 : 0 + ms = ms := Nat.zero_add _
  show W p l e (zRc d mc ms) s m av.toArray below meth c H locs (0 + mc) (0 + ms) _ _
  rw [e1, e2]
  exact W.vret hx hb Bo.returns (fun t ht hW => ⟨⟨w, rfl, hp, by rw [ht]; exact hP, hD, va_K.moved hW.alike hK, zSt_kept hSt hW hS ht, hAO.moved hW.alike⟩, hS.F ht⟩) hS.2.2 hd hlk
theorem zv_call {X : zX} {B : zB} {w0 : va_W} {own : String} {cc : ByteArray} {nL d pc ix maxL n d1 q a b mc ms mc1 ms1 : Nat} {lv : List (Nat × Value)} {st st0 : List Value} {e0 : va_E} {y : MethodName} {bytes : ByteArray} {As : List Value} {post : va_W → Prop} (o : zOk X B own cc nL d) (hr : zRm X mc ms) (hax : zAX X) (hd : decode cc pc = .ok (.invokespecial ix, 3)) (hC : zCn B w0 q e0 y bytes maxL d1 mc1 ms1 (.ref q :: As) post) (h1 : Cond.methodLink own ix y ∈ zTB) (h2 : Cond.instanceMethod y ∈ zTB) (h3 : Cond.initialized y.cls ∈ zTB) (h4 : Cond.code y bytes maxL none ∈ zTB) (hy1 : y.name = "<init>") (hyd : y.cls ≠ "java/lang/invoke/MethodHandle" ∧ y.cls ≠ "java/lang/invoke/VarHandle" ∧ (parseMethodDescriptor y.desc).map (fun d => d.parameters.length) = some n) (hdd : d1 < d) (hmx : maxL ≤ 41) (hn : As.length = n) (hst : st0 = As.reverse ++ .ref q :: st) (hcat : (st.map fun v => v.category).sum ≤ 8) (ha : a + mc1 ≤ mc) (hb2 : b + ms1 ≤ ms)
    (kk : ∀ w : va_W, post w → zV (zXc X (a + mc1) (b + ms1)) B (w0 ++ w) (pc + 3) lv st) : zV (zXc X a b) B (w0 ++ [(q, e0)]) pc lv st0 := by
  obtain ⟨p, l, e, R, s, m, args, below, meth, c, Q, k1, sl1⟩ := X
  obtain ⟨hx, hb, hml, hown, hts, hK, hSt, hR, hlk⟩ := o
  obtain ⟨r1, r2⟩ := hr
  have hax : zAO s := hax
  intro H locs ls hP hD hS hl
  have hRm : (zRc d1 mc1 ms1).frames + 1 ≤ R.frames ∧ 8 + (maxL + 11) + (zRc d1 mc1 ms1).locals ≤ R.locals := zRoom (d' := d1) ⟨hR.1, hR.2.1, hR.2.2.1, hR.2.2.2⟩ hdd hmx
  refine va_callv (va_runI (As := As) (rest := st) ⟨hx, hb, hml, hown, hts⟩ (hC l) (cwI n hts (zGood h4) rfl rfl rfl (hts _ h3) (hts _ h1) (hts _ h2) hy1 hyd hRm) ⟨zInW_blind, fun U hU hW => ⟨rfl, by rw [hU]; exact hP, hD, va_K.moved hW.alike hK, zSt_kept hSt hW hS hU, hax.moved hW.alike⟩⟩ rfl hn (hl.1.trans hml) hst (lv_room hcat) hd ⟨by show k1 + a + mc1 ≤ _; omega, by show sl1 + b + ms1 ≤ _; omega⟩) hS (fun q _ h => h) (fun q h => h) (fun u t H1 locs1 ht hvm hp hb1 hz1 hk1 hS1 => ?_)
  obtain ⟨i1, i2, i3, i4, i5⟩ := hb1
  rw [ht] at i1
  have := kk u hp H1 locs1 ls i1 i2 hS1 hl
  have e1 : k1 + (a + mc1) = k1 + a + mc1 := by omega
  have e2 : sl1 + (b + ms1) = sl1 + b + ms1 := by omega
  rw [e1, e2] at this
  exact this
