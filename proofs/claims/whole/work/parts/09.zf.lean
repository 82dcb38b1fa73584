/-! The words that all contracts share; the world as a row of cells, by their places 0 .. n-1 (ad: their addresses). -/
abbrev zX : Type := Program × Launch × Env × Room × State × MethodId × Array Value × List Frame × Method × Code × (State → Prop) × Nat × Nat
/-- D: class numbers and slots; cy: array classes; lo: where the world begins; ad: a place's address; n: how many places; sq: the addresses of the String constants; sv: of their bytes -/
abbrev zB : Type := va_G × (Nat → ClassId) × Nat × (Nat → Nat) × Nat × (Nat → Nat) × (Nat → Nat)
def zad (B : zB) : Nat → Nat := B.2.2.2.1
def znn (B : zB) : Nat := B.2.2.2.2.1
def zlo (B : zB) : Nat := B.2.2.1
def zsq (B : zB) : Nat → Nat := B.2.2.2.2.2.1
def zsv (B : zB) : Nat → Nat := B.2.2.2.2.2.2
def zcy (B : zB) : Nat → ClassId := B.2.1
def zref (B : zB) (i : Nat) : Value := .ref (zad B i)
def zty (cy : Nat → ClassId) : List (ClassId × FieldType) := [(cy 0, .byte), (cy 1, .int), (cy 2, .long), (cy 3, .object "WalkFences$Fence"), (cy 4, .object "WalkFences$Law"), (cy 5, .object "WalkFences$Sheet")]
def zwl (ad : Nat → Nat) (n : Nat) (g : Nat → va_E) : va_W := (List.range n).map fun i => (ad i, g i)
def zA (lo : Nat) : Nat → Prop := fun q => lo ≤ q
/-- the String constants: "", "apk", "cbd" -/
def zslen : List Nat := [0, 3, 3]
def zsbyt : List (List Int32) := [[], [97, 112, 107], [99, 98, 100]]
/-- what statics hold: the table ABOVE, the String constants -/
def zSt (B : zB) (U : State) : Prop := (∃ t : Nat, va_Z "WalkFences" "ABOVE" "[I" (.ref t) (zA (zlo B)) U U.heap ∧ va_T .int t 7 (fun j => .int (([-1, 0, 0, 0, 1, 2, 0] : List Int32).getD j 0)) (zA (zlo B)) U U.heap)
  ∧ vk_S 3 zslen zsbyt (zsq B) (zsv B) (zA (zlo B)) U U.heap ∧ zlo B ≤ U.heap.size
  ∧ va_Z "java/lang/String" "COMPACT_STRINGS" "Z" (.int 1) (zA (zlo B)) U U.heap
  ∧ vk_R "WalkFences$TextReader" 19 "" (zsq B 0) U ∧ vk_R "WalkFences$Law" 22 "apk" (zsq B 1) U ∧ vk_R "WalkFences$Law" 24 "cbd" (zsq B 2) U
  ∧ ∀ q ∈ zNest, va_Nw (.methodLinkNest q.1 q.2.1 q.2.2.1 q.2.2.2) U
def zIn (B : zB) (g : Nat → va_E) (U : State) : Prop := va_P B.1 zcl (zwl (zad B) (znn B) g) U.heap ∧ va_D (zA (zlo B)) (zwl (zad B) (znn B) g) ∧ va_K B.1 zcl (zty (zcy B)) U ∧ zSt B U
def zW (X : zX) (B : zB) (g : Nat → va_E) (pc : Nat) (lv : List (Nat × Value)) (st : List Value) : Prop := match X with
  | (p, l, e, R, s, m, args, below, meth, c, Q, k, sl) => ∀ (H : Heap) (locs : List Loc) (ls : Array Slot), va_P B.1 zcl (zwl (zad B) (znn B) g) H → va_D (zA (zlo B)) (zwl (zad B) (znn B) g) → va_S (zA (zlo B)) s.heap H locs → lv_has ls c.maxLocals lv → W p l e R s m args below meth c H locs k sl Q (F0 m pc ls st)
/-- what holds all through a method: own: its class; cc, nL: its code; d: how deep its calls may go -/
def zOk (X : zX) (B : zB) (own : String) (cc : ByteArray) (nL d : Nat) : Prop := match X with
  | (p, l, e, R, s, m, args, below, meth, c, Q, k, sl) => p.tables.exec = Jvm.exec ∧ c.code = cc ∧ c.maxLocals = nL ∧ s.vm.findClass own = some m.cls ∧ (∀ w ∈ zTB, w.before args s = true) ∧ va_K B.1 zcl (zty (zcy B)) s ∧ zSt B s ∧ (d ≤ R.frames ∧ 60 * d ≤ R.locals ∧ k ≤ R.cells ∧ sl ≤ R.slots) ∧ meth.locks = false
theorem zwl_at {ad : Nat → Nat} {n : Nat} {g : Nat → va_E} {i : Nat} (h : i < n) : (zwl ad n g)[i]? = some (ad i, g i) := by
  simp [zwl, h]
theorem zwl_e {ad : Nat → Nat} {n : Nat} {g : Nat → va_E} {i : Nat} {e : va_E} (h : i < n) (he : g i = e) : (zwl ad n g)[i]? = some (ad i, e) := by
  rw [zwl_at h, he]
theorem zwl_set {ad : Nat → Nat} {n : Nat} {g : Nat → va_E} {i : Nat} {e : va_E} (h : i < n) : (zwl ad n g).set i (ad i, e) = zwl ad n (va_up g i e) := by
  apply List.ext_getElem?
  intro j
  by_cases hj : j = i
  · subst hj
    rw [List.getElem?_set_self (by simpa [zwl] using h), zwl_e h (va_up_self _ _ _)]
  · rw [List.getElem?_set_ne (Ne.symm hj)]
    by_cases hn : j < n
    · rw [zwl_at hn, zwl_e hn (va_up_ne _ _ hj)]
    · simp [zwl, hn]
theorem zwl_push {ad : Nat → Nat} {n : Nat} {g : Nat → va_E} {q : Nat} {e : va_E} : zwl ad n g ++ [(q, e)] = zwl (va_up ad n q) (n + 1) (va_up g n e) := by
  simp only [zwl, List.range_succ, List.map_append, List.map_cons, List.map_nil, va_up_self]
  congr 1
  apply List.map_congr_left
  intro i hi
  have : i ≠ n := Nat.ne_of_lt (List.mem_range.mp hi)
  rw [va_up_ne _ _ this, va_up_ne _ _ this]
theorem zwl_congr {ad ad' : Nat → Nat} {n : Nat} {g g' : Nat → va_E} (h1 : ∀ i, i < n → ad i = ad' i) (h2 : ∀ i, i < n → g i = g' i) : zwl ad n g = zwl ad' n g' := by
  simp only [zwl]
  apply List.map_congr_left
  intro i hi
  rw [h1 i (List.mem_range.mp hi), h2 i (List.mem_range.mp hi)]
theorem zSt_kept {B : zB} {s U : State} {H : Heap} {locs : List Loc} (h : zSt B s) (hW : s.WarmedH U.vm) (hS : va_S (zA (zlo B)) s.heap H locs) (hU : U.heap = H) : zSt B U := by
  obtain ⟨⟨t, h1, h2⟩, h3, h4, h5, h6, h7, h8, h9⟩ := h
  have key : ∀ a : Nat, a < s.heap.size → ¬ zA (zlo B) a → U.heap[a]? = s.heap[a]? := fun a ha hn => by rw [hU]; exact hS.2.1 a ha hn
  exact ⟨⟨t, va_Z.kept (va_Z.moved hW.alike h1) key, va_T.kept (va_T.moved hW.alike h2) key⟩, vk_S.kept (vk_S.moved hW.alike h3) key, Nat.le_trans h4 (by rw [hU]; exact hS.1), va_Z.kept (va_Z.moved hW.alike h5) key, vk_R.warm hW h6, vk_R.warm hW h7, vk_R.warm hW h8, fun q hq => va_Nw.warmM hW (h9 q hq)⟩
theorem zSt_same {B : zB} {s U : State} (h : zSt B s) (hv : U.vm = s.vm) (hh : U.heap = s.heap) : zSt B U := by
  obtain ⟨⟨t, h1, h2⟩, h3, h4, h5, h6, h7, h8, h9⟩ := h
  have al : s.vm.Alike U.vm := by rw [hv]; exact Vm.Alike.refl s.vm
  have key : ∀ a : Nat, a < s.heap.size → ¬ zA (zlo B) a → U.heap[a]? = s.heap[a]? := fun a _ _ => by rw [hh]
  exact ⟨⟨t, va_Z.kept (va_Z.moved al h1) key, va_T.kept (va_T.moved al h2) key⟩, vk_S.kept (vk_S.moved al h3) key, by rw [hh]; exact h4, va_Z.kept (va_Z.moved al h5) key, vk_R.same hv h6, vk_R.same hv h7, vk_R.same hv h8, fun q hq => va_Nw.same rfl hv.symm (h9 q hq)⟩

theorem z_iconst {X : zX} {B : zB} {g : Nat → va_E} {own : String} {cc : ByteArray} {nL d pc : Nat} {lv : List (Nat × Value)} {st : List Value} {n : Int} {v : Int32} (o : zOk X B own cc nL d) (hd : decode cc pc = .ok (.iconst n, 1)) (hv : Int32.ofInt n = v) (kk : zW X B g (pc + 1) lv (.int v :: st)) : zW X B g pc lv (st) := by
  obtain ⟨p, l, e, R, s, m, args, below, meth, c, Q, k1, sl1⟩ := X
  obtain ⟨hx, hb, hml, hown, hts, hK, hSt, hR, hlk⟩ := o
  intro H locs ls hP hD hS hl
  exact lv_iconst hx hb hd hv (kk H locs ls hP hD hS hl)
theorem z_bipush {X : zX} {B : zB} {g : Nat → va_E} {own : String} {cc : ByteArray} {nL d pc : Nat} {lv : List (Nat × Value)} {st : List Value} {n : Int} {v : Int32} (o : zOk X B own cc nL d) (hd : decode cc pc = .ok (.bipush n, 2)) (hv : (Int8.ofInt n).toInt32 = v) (kk : zW X B g (pc + 2) lv (.int v :: st)) : zW X B g pc lv (st) := by
  obtain ⟨p, l, e, R, s, m, args, below, meth, c, Q, k1, sl1⟩ := X
  obtain ⟨hx, hb, hml, hown, hts, hK, hSt, hR, hlk⟩ := o
  intro H locs ls hP hD hS hl
  exact lv_bipush hx hb hd hv (kk H locs ls hP hD hS hl)
theorem z_sipush {X : zX} {B : zB} {g : Nat → va_E} {own : String} {cc : ByteArray} {nL d pc : Nat} {lv : List (Nat × Value)} {st : List Value} {n : Int} {v : Int32} (o : zOk X B own cc nL d) (hd : decode cc pc = .ok (.sipush n, 3)) (hv : (Int16.ofInt n).toInt32 = v) (kk : zW X B g (pc + 3) lv (.int v :: st)) : zW X B g pc lv (st) := by
  obtain ⟨p, l, e, R, s, m, args, below, meth, c, Q, k1, sl1⟩ := X
  obtain ⟨hx, hb, hml, hown, hts, hK, hSt, hR, hlk⟩ := o
  intro H locs ls hP hD hS hl
  exact lv_sipush hx hb hd hv (kk H locs ls hP hD hS hl)
theorem z_lconst {X : zX} {B : zB} {g : Nat → va_E} {own : String} {cc : ByteArray} {nL d pc : Nat} {lv : List (Nat × Value)} {st : List Value} {n : Fin 2} {v : Int64} (o : zOk X B own cc nL d) (hd : decode cc pc = .ok (.lconst n, 1)) (hv : Int64.ofNat (n : Nat) = v) (kk : zW X B g (pc + 1) lv (.long v :: st)) : zW X B g pc lv (st) := by
  obtain ⟨p, l, e, R, s, m, args, below, meth, c, Q, k1, sl1⟩ := X
  obtain ⟨hx, hb, hml, hown, hts, hK, hSt, hR, hlk⟩ := o
  intro H locs ls hP hD hS hl
  exact lv_lconst hx hb hd hv (kk H locs ls hP hD hS hl)
theorem z_ldc {X : zX} {B : zB} {g : Nat → va_E} {own : String} {cc : ByteArray} {nL d pc : Nat} {lv : List (Nat × Value)} {st : List Value} {ix : Nat} {v : Int32} (o : zOk X B own cc nL d) (hd : decode cc pc = .ok (.ldc ix, 2)) (hc : Cond.constant own ix v ∈ zTB) (kk : zW X B g (pc + 2) lv (.int v :: st)) : zW X B g pc lv (st) := by
  obtain ⟨p, l, e, R, s, m, args, below, meth, c, Q, k1, sl1⟩ := X
  obtain ⟨hx, hb, hml, hown, hts, hK, hSt, hR, hlk⟩ := o
  intro H locs ls hP hD hS hl
  exact lv_ldc hx hb hown (hts _ hc) hd (kk H locs ls hP hD hS hl)
theorem z_ldcw {X : zX} {B : zB} {g : Nat → va_E} {own : String} {cc : ByteArray} {nL d pc : Nat} {lv : List (Nat × Value)} {st : List Value} {ix : Nat} {v : Int32} (o : zOk X B own cc nL d) (hd : decode cc pc = .ok (.ldc_w ix, 3)) (hc : Cond.constant own ix v ∈ zTB) (kk : zW X B g (pc + 3) lv (.int v :: st)) : zW X B g pc lv (st) := by
  obtain ⟨p, l, e, R, s, m, args, below, meth, c, Q, k1, sl1⟩ := X
  obtain ⟨hx, hb, hml, hown, hts, hK, hSt, hR, hlk⟩ := o
  intro H locs ls hP hD hS hl
  exact lv_ldcw hx hb hown (hts _ hc) hd (kk H locs ls hP hD hS hl)
theorem z_ldc2 {X : zX} {B : zB} {g : Nat → va_E} {own : String} {cc : ByteArray} {nL d pc : Nat} {lv : List (Nat × Value)} {st : List Value} {ix : Nat} {v : Int64} (o : zOk X B own cc nL d) (hd : decode cc pc = .ok (.ldc2_w ix, 3)) (hc : Cond.constantLong own ix v ∈ zTB) (kk : zW X B g (pc + 3) lv (.long v :: st)) : zW X B g pc lv (st) := by
  obtain ⟨p, l, e, R, s, m, args, below, meth, c, Q, k1, sl1⟩ := X
  obtain ⟨hx, hb, hml, hown, hts, hK, hSt, hR, hlk⟩ := o
  intro H locs ls hP hD hS hl
  exact lv_ldc2 hx hb hown (hts _ hc) hd (kk H locs ls hP hD hS hl)
theorem z_iload_n {X : zX} {B : zB} {g : Nat → va_E} {own : String} {cc : ByteArray} {nL d pc : Nat} {lv : List (Nat × Value)} {st : List Value} {k : Fin 4} {j : Nat} {v : Int32} (o : zOk X B own cc nL d) (hd : decode cc pc = .ok (.iload_n k, 1)) (hv : lv[j]? = some ((k : Nat), .int v)) (kk : zW X B g (pc + 1) lv (.int v :: st)) : zW X B g pc lv (st) := by
  obtain ⟨p, l, e, R, s, m, args, below, meth, c, Q, k1, sl1⟩ := X
  obtain ⟨hx, hb, hml, hown, hts, hK, hSt, hR, hlk⟩ := o
  intro H locs ls hP hD hS hl
  exact lv_iload_n hx hb hd rfl (lv_at hl j hv) (kk H locs ls hP hD hS hl)
theorem z_iload {X : zX} {B : zB} {g : Nat → va_E} {own : String} {cc : ByteArray} {nL d pc : Nat} {lv : List (Nat × Value)} {st : List Value} {i j : Nat} {v : Int32} (o : zOk X B own cc nL d) (hd : decode cc pc = .ok (.iload i, 2)) (hv : lv[j]? = some (i, .int v)) (kk : zW X B g (pc + 2) lv (.int v :: st)) : zW X B g pc lv (st) := by
  obtain ⟨p, l, e, R, s, m, args, below, meth, c, Q, k1, sl1⟩ := X
  obtain ⟨hx, hb, hml, hown, hts, hK, hSt, hR, hlk⟩ := o
  intro H locs ls hP hD hS hl
  exact lv_iload hx hb hd (lv_at hl j hv) (kk H locs ls hP hD hS hl)
theorem z_lload_n {X : zX} {B : zB} {g : Nat → va_E} {own : String} {cc : ByteArray} {nL d pc : Nat} {lv : List (Nat × Value)} {st : List Value} {k : Fin 4} {j : Nat} {v : Int64} (o : zOk X B own cc nL d) (hd : decode cc pc = .ok (.lload_n k, 1)) (hv : lv[j]? = some ((k : Nat), .long v)) (kk : zW X B g (pc + 1) lv (.long v :: st)) : zW X B g pc lv (st) := by
  obtain ⟨p, l, e, R, s, m, args, below, meth, c, Q, k1, sl1⟩ := X
  obtain ⟨hx, hb, hml, hown, hts, hK, hSt, hR, hlk⟩ := o
  intro H locs ls hP hD hS hl
  exact lv_lload_n hx hb hd rfl (lv_at hl j hv) (kk H locs ls hP hD hS hl)
theorem z_lload {X : zX} {B : zB} {g : Nat → va_E} {own : String} {cc : ByteArray} {nL d pc : Nat} {lv : List (Nat × Value)} {st : List Value} {i j : Nat} {v : Int64} (o : zOk X B own cc nL d) (hd : decode cc pc = .ok (.lload i, 2)) (hv : lv[j]? = some (i, .long v)) (kk : zW X B g (pc + 2) lv (.long v :: st)) : zW X B g pc lv (st) := by
  obtain ⟨p, l, e, R, s, m, args, below, meth, c, Q, k1, sl1⟩ := X
  obtain ⟨hx, hb, hml, hown, hts, hK, hSt, hR, hlk⟩ := o
  intro H locs ls hP hD hS hl
  exact lv_lload hx hb hd (lv_at hl j hv) (kk H locs ls hP hD hS hl)
theorem z_aload_n {X : zX} {B : zB} {g : Nat → va_E} {own : String} {cc : ByteArray} {nL d pc : Nat} {lv : List (Nat × Value)} {st : List Value} {k : Fin 4} {j : Nat} {v : Nat} (o : zOk X B own cc nL d) (hd : decode cc pc = .ok (.aload_n k, 1)) (hv : lv[j]? = some ((k : Nat), .ref v)) (kk : zW X B g (pc + 1) lv (.ref v :: st)) : zW X B g pc lv (st) := by
  obtain ⟨p, l, e, R, s, m, args, below, meth, c, Q, k1, sl1⟩ := X
  obtain ⟨hx, hb, hml, hown, hts, hK, hSt, hR, hlk⟩ := o
  intro H locs ls hP hD hS hl
  exact lv_aload_n hx hb hd rfl (lv_at hl j hv) (kk H locs ls hP hD hS hl)
theorem z_aload {X : zX} {B : zB} {g : Nat → va_E} {own : String} {cc : ByteArray} {nL d pc : Nat} {lv : List (Nat × Value)} {st : List Value} {i j : Nat} {v : Nat} (o : zOk X B own cc nL d) (hd : decode cc pc = .ok (.aload i, 2)) (hv : lv[j]? = some (i, .ref v)) (kk : zW X B g (pc + 2) lv (.ref v :: st)) : zW X B g pc lv (st) := by
  obtain ⟨p, l, e, R, s, m, args, below, meth, c, Q, k1, sl1⟩ := X
  obtain ⟨hx, hb, hml, hown, hts, hK, hSt, hR, hlk⟩ := o
  intro H locs ls hP hD hS hl
  exact lv_aload hx hb hd (lv_at hl j hv) (kk H locs ls hP hD hS hl)
theorem z_istore_n {X : zX} {B : zB} {g : Nat → va_E} {own : String} {cc : ByteArray} {nL d pc : Nat} {lv : List (Nat × Value)} {st : List Value} {k : Fin 4} {i : Nat} {v : Int32} {lv2 : List (Nat × Value)} (o : zOk X B own cc nL d) (hd : decode cc pc = .ok (.istore_n k, 1)) (hi : (k : Nat) = i) (hn : i < nL) (hl2 : (i, Value.int v) :: lv.filter (fun q => !(q.1 == i) && !(q.1 + 1 == i && q.2.category == 2)) = lv2) (kk : zW X B g (pc + 1) lv2 (st)) : zW X B g pc lv (.int v :: st) := by
  obtain ⟨p, l, e, R, s, m, args, below, meth, c, Q, k1, sl1⟩ := X
  obtain ⟨hx, hb, hml, hown, hts, hK, hSt, hR, hlk⟩ := o
  intro H locs ls hP hD hS hl
  exact lv_istore_n hx hb hd hi hl (by rw [hml]; exact hn) hl2 (fun ls9 hl9 => kk H locs ls9 hP hD hS hl9)
theorem z_istore {X : zX} {B : zB} {g : Nat → va_E} {own : String} {cc : ByteArray} {nL d pc : Nat} {lv : List (Nat × Value)} {st : List Value} {i : Nat} {v : Int32} {lv2 : List (Nat × Value)} (o : zOk X B own cc nL d) (hd : decode cc pc = .ok (.istore i, 2)) (hn : i < nL) (hl2 : (i, Value.int v) :: lv.filter (fun q => !(q.1 == i) && !(q.1 + 1 == i && q.2.category == 2)) = lv2) (kk : zW X B g (pc + 2) lv2 (st)) : zW X B g pc lv (.int v :: st) := by
  obtain ⟨p, l, e, R, s, m, args, below, meth, c, Q, k1, sl1⟩ := X
  obtain ⟨hx, hb, hml, hown, hts, hK, hSt, hR, hlk⟩ := o
  intro H locs ls hP hD hS hl
  exact lv_istore hx hb hd hl (by rw [hml]; exact hn) hl2 (fun ls9 hl9 => kk H locs ls9 hP hD hS hl9)
theorem z_lstore_n {X : zX} {B : zB} {g : Nat → va_E} {own : String} {cc : ByteArray} {nL d pc : Nat} {lv : List (Nat × Value)} {st : List Value} {k : Fin 4} {i : Nat} {v : Int64} {lv2 : List (Nat × Value)} (o : zOk X B own cc nL d) (hd : decode cc pc = .ok (.lstore_n k, 1)) (hi : (k : Nat) = i) (hn : i + 1 < nL) (hl2 : (i, Value.long v) :: lv.filter (fun q => !(q.1 == i) && (!(q.1 == i + 1) && !(q.1 + 1 == i && q.2.category == 2))) = lv2) (kk : zW X B g (pc + 1) lv2 (st)) : zW X B g pc lv (.long v :: st) := by
  obtain ⟨p, l, e, R, s, m, args, below, meth, c, Q, k1, sl1⟩ := X
  obtain ⟨hx, hb, hml, hown, hts, hK, hSt, hR, hlk⟩ := o
  intro H locs ls hP hD hS hl
  exact lv_lstore_n hx hb hd hi hl (by rw [hml]; exact hn) hl2 (fun ls9 hl9 => kk H locs ls9 hP hD hS hl9)
theorem z_lstore {X : zX} {B : zB} {g : Nat → va_E} {own : String} {cc : ByteArray} {nL d pc : Nat} {lv : List (Nat × Value)} {st : List Value} {i : Nat} {v : Int64} {lv2 : List (Nat × Value)} (o : zOk X B own cc nL d) (hd : decode cc pc = .ok (.lstore i, 2)) (hn : i + 1 < nL) (hl2 : (i, Value.long v) :: lv.filter (fun q => !(q.1 == i) && (!(q.1 == i + 1) && !(q.1 + 1 == i && q.2.category == 2))) = lv2) (kk : zW X B g (pc + 2) lv2 (st)) : zW X B g pc lv (.long v :: st) := by
  obtain ⟨p, l, e, R, s, m, args, below, meth, c, Q, k1, sl1⟩ := X
  obtain ⟨hx, hb, hml, hown, hts, hK, hSt, hR, hlk⟩ := o
  intro H locs ls hP hD hS hl
  exact lv_lstore hx hb hd hl (by rw [hml]; exact hn) hl2 (fun ls9 hl9 => kk H locs ls9 hP hD hS hl9)
theorem z_astore_n {X : zX} {B : zB} {g : Nat → va_E} {own : String} {cc : ByteArray} {nL d pc : Nat} {lv : List (Nat × Value)} {st : List Value} {k : Fin 4} {i : Nat} {v : Nat} {lv2 : List (Nat × Value)} (o : zOk X B own cc nL d) (hd : decode cc pc = .ok (.astore_n k, 1)) (hi : (k : Nat) = i) (hn : i < nL) (hl2 : (i, Value.ref v) :: lv.filter (fun q => !(q.1 == i) && !(q.1 + 1 == i && q.2.category == 2)) = lv2) (kk : zW X B g (pc + 1) lv2 (st)) : zW X B g pc lv (.ref v :: st) := by
  obtain ⟨p, l, e, R, s, m, args, below, meth, c, Q, k1, sl1⟩ := X
  obtain ⟨hx, hb, hml, hown, hts, hK, hSt, hR, hlk⟩ := o
  intro H locs ls hP hD hS hl
  exact lv_astore_n hx hb hd hi hl (by rw [hml]; exact hn) hl2 (fun ls9 hl9 => kk H locs ls9 hP hD hS hl9)
theorem z_astore {X : zX} {B : zB} {g : Nat → va_E} {own : String} {cc : ByteArray} {nL d pc : Nat} {lv : List (Nat × Value)} {st : List Value} {i : Nat} {v : Nat} {lv2 : List (Nat × Value)} (o : zOk X B own cc nL d) (hd : decode cc pc = .ok (.astore i, 2)) (hn : i < nL) (hl2 : (i, Value.ref v) :: lv.filter (fun q => !(q.1 == i) && !(q.1 + 1 == i && q.2.category == 2)) = lv2) (kk : zW X B g (pc + 2) lv2 (st)) : zW X B g pc lv (.ref v :: st) := by
  obtain ⟨p, l, e, R, s, m, args, below, meth, c, Q, k1, sl1⟩ := X
  obtain ⟨hx, hb, hml, hown, hts, hK, hSt, hR, hlk⟩ := o
  intro H locs ls hP hD hS hl
  exact lv_astore hx hb hd hl (by rw [hml]; exact hn) hl2 (fun ls9 hl9 => kk H locs ls9 hP hD hS hl9)
theorem z_iinc {X : zX} {B : zB} {g : Nat → va_E} {own : String} {cc : ByteArray} {nL d pc : Nat} {lv : List (Nat × Value)} {st : List Value} {i j : Nat} {n : Int} {x v : Int32} {lv2 : List (Nat × Value)} (o : zOk X B own cc nL d) (hd : decode cc pc = .ok (.iinc i n, 3)) (hk : lv[j]? = some (i, .int x)) (hv : x + Int32.ofInt n = v) (hn : i < nL) (hl2 : (i, Value.int v) :: lv.filter (fun q => !(q.1 == i) && !(q.1 + 1 == i && q.2.category == 2)) = lv2) (kk : zW X B g (pc + 3) lv2 (st)) : zW X B g pc lv (st) := by
  obtain ⟨p, l, e, R, s, m, args, below, meth, c, Q, k1, sl1⟩ := X
  obtain ⟨hx, hb, hml, hown, hts, hK, hSt, hR, hlk⟩ := o
  intro H locs ls hP hD hS hl
  exact lv_iinc hx hb hd hl hk hv (by rw [hml]; exact hn) hl2 (fun ls9 hl9 => kk H locs ls9 hP hD hS hl9)
theorem z_iadd {X : zX} {B : zB} {g : Nat → va_E} {own : String} {cc : ByteArray} {nL d pc : Nat} {lv : List (Nat × Value)} {st : List Value} {x y : Int32} (o : zOk X B own cc nL d) (hd : decode cc pc = .ok (.iadd, 1))  (kk : zW X B g (pc + 1) lv (.int (x + y) :: st)) : zW X B g pc lv (.int y :: .int x :: st) := by
  obtain ⟨p, l, e, R, s, m, args, below, meth, c, Q, k1, sl1⟩ := X
  obtain ⟨hx, hb, hml, hown, hts, hK, hSt, hR, hlk⟩ := o
  intro H locs ls hP hD hS hl
  exact lv_iadd hx hb hd (kk H locs ls hP hD hS hl)
theorem z_isub {X : zX} {B : zB} {g : Nat → va_E} {own : String} {cc : ByteArray} {nL d pc : Nat} {lv : List (Nat × Value)} {st : List Value} {x y : Int32} (o : zOk X B own cc nL d) (hd : decode cc pc = .ok (.isub, 1))  (kk : zW X B g (pc + 1) lv (.int (x - y) :: st)) : zW X B g pc lv (.int y :: .int x :: st) := by
  obtain ⟨p, l, e, R, s, m, args, below, meth, c, Q, k1, sl1⟩ := X
  obtain ⟨hx, hb, hml, hown, hts, hK, hSt, hR, hlk⟩ := o
  intro H locs ls hP hD hS hl
  exact lv_isub hx hb hd (kk H locs ls hP hD hS hl)
theorem z_imul {X : zX} {B : zB} {g : Nat → va_E} {own : String} {cc : ByteArray} {nL d pc : Nat} {lv : List (Nat × Value)} {st : List Value} {x y : Int32} (o : zOk X B own cc nL d) (hd : decode cc pc = .ok (.imul, 1))  (kk : zW X B g (pc + 1) lv (.int (x * y) :: st)) : zW X B g pc lv (.int y :: .int x :: st) := by
  obtain ⟨p, l, e, R, s, m, args, below, meth, c, Q, k1, sl1⟩ := X
  obtain ⟨hx, hb, hml, hown, hts, hK, hSt, hR, hlk⟩ := o
  intro H locs ls hP hD hS hl
  exact lv_imul hx hb hd (kk H locs ls hP hD hS hl)
theorem z_iand {X : zX} {B : zB} {g : Nat → va_E} {own : String} {cc : ByteArray} {nL d pc : Nat} {lv : List (Nat × Value)} {st : List Value} {x y : Int32} (o : zOk X B own cc nL d) (hd : decode cc pc = .ok (.iand, 1))  (kk : zW X B g (pc + 1) lv (.int (x &&& y) :: st)) : zW X B g pc lv (.int y :: .int x :: st) := by
  obtain ⟨p, l, e, R, s, m, args, below, meth, c, Q, k1, sl1⟩ := X
  obtain ⟨hx, hb, hml, hown, hts, hK, hSt, hR, hlk⟩ := o
  intro H locs ls hP hD hS hl
  exact lv_iand hx hb hd (kk H locs ls hP hD hS hl)
theorem z_ior {X : zX} {B : zB} {g : Nat → va_E} {own : String} {cc : ByteArray} {nL d pc : Nat} {lv : List (Nat × Value)} {st : List Value} {x y : Int32} (o : zOk X B own cc nL d) (hd : decode cc pc = .ok (.ior, 1))  (kk : zW X B g (pc + 1) lv (.int (x ||| y) :: st)) : zW X B g pc lv (.int y :: .int x :: st) := by
  obtain ⟨p, l, e, R, s, m, args, below, meth, c, Q, k1, sl1⟩ := X
  obtain ⟨hx, hb, hml, hown, hts, hK, hSt, hR, hlk⟩ := o
  intro H locs ls hP hD hS hl
  exact lv_ior hx hb hd (kk H locs ls hP hD hS hl)
theorem z_ixor {X : zX} {B : zB} {g : Nat → va_E} {own : String} {cc : ByteArray} {nL d pc : Nat} {lv : List (Nat × Value)} {st : List Value} {x y : Int32} (o : zOk X B own cc nL d) (hd : decode cc pc = .ok (.ixor, 1))  (kk : zW X B g (pc + 1) lv (.int (x ^^^ y) :: st)) : zW X B g pc lv (.int y :: .int x :: st) := by
  obtain ⟨p, l, e, R, s, m, args, below, meth, c, Q, k1, sl1⟩ := X
  obtain ⟨hx, hb, hml, hown, hts, hK, hSt, hR, hlk⟩ := o
  intro H locs ls hP hD hS hl
  exact lv_ixor hx hb hd (kk H locs ls hP hD hS hl)
theorem z_ishl {X : zX} {B : zB} {g : Nat → va_E} {own : String} {cc : ByteArray} {nL d pc : Nat} {lv : List (Nat × Value)} {st : List Value} {x y : Int32} (o : zOk X B own cc nL d) (hd : decode cc pc = .ok (.ishl, 1))  (kk : zW X B g (pc + 1) lv (.int (x <<< (y &&& 31)) :: st)) : zW X B g pc lv (.int y :: .int x :: st) := by
  obtain ⟨p, l, e, R, s, m, args, below, meth, c, Q, k1, sl1⟩ := X
  obtain ⟨hx, hb, hml, hown, hts, hK, hSt, hR, hlk⟩ := o
  intro H locs ls hP hD hS hl
  exact lv_ishl hx hb hd (kk H locs ls hP hD hS hl)
theorem z_ishr {X : zX} {B : zB} {g : Nat → va_E} {own : String} {cc : ByteArray} {nL d pc : Nat} {lv : List (Nat × Value)} {st : List Value} {x y : Int32} (o : zOk X B own cc nL d) (hd : decode cc pc = .ok (.ishr, 1))  (kk : zW X B g (pc + 1) lv (.int (x >>> (y &&& 31)) :: st)) : zW X B g pc lv (.int y :: .int x :: st) := by
  obtain ⟨p, l, e, R, s, m, args, below, meth, c, Q, k1, sl1⟩ := X
  obtain ⟨hx, hb, hml, hown, hts, hK, hSt, hR, hlk⟩ := o
  intro H locs ls hP hD hS hl
  exact lv_ishr hx hb hd (kk H locs ls hP hD hS hl)
theorem z_idiv {X : zX} {B : zB} {g : Nat → va_E} {own : String} {cc : ByteArray} {nL d pc : Nat} {lv : List (Nat × Value)} {st : List Value} {x y : Int32} (o : zOk X B own cc nL d) (hd : decode cc pc = .ok (.idiv, 1)) (hne : ¬ y = 0) (kk : zW X B g (pc + 1) lv (.int (x / y) :: st)) : zW X B g pc lv (.int y :: .int x :: st) := by
  obtain ⟨p, l, e, R, s, m, args, below, meth, c, Q, k1, sl1⟩ := X
  obtain ⟨hx, hb, hml, hown, hts, hK, hSt, hR, hlk⟩ := o
  intro H locs ls hP hD hS hl
  exact lv_idiv hx hb hd hne (kk H locs ls hP hD hS hl)
theorem z_irem {X : zX} {B : zB} {g : Nat → va_E} {own : String} {cc : ByteArray} {nL d pc : Nat} {lv : List (Nat × Value)} {st : List Value} {x y : Int32} (o : zOk X B own cc nL d) (hd : decode cc pc = .ok (.irem, 1)) (hne : ¬ y = 0) (kk : zW X B g (pc + 1) lv (.int (x - x / y * y) :: st)) : zW X B g pc lv (.int y :: .int x :: st) := by
  obtain ⟨p, l, e, R, s, m, args, below, meth, c, Q, k1, sl1⟩ := X
  obtain ⟨hx, hb, hml, hown, hts, hK, hSt, hR, hlk⟩ := o
  intro H locs ls hP hD hS hl
  exact lv_irem hx hb hd hne (kk H locs ls hP hD hS hl)
theorem z_ineg {X : zX} {B : zB} {g : Nat → va_E} {own : String} {cc : ByteArray} {nL d pc : Nat} {lv : List (Nat × Value)} {st : List Value} {x : Int32} (o : zOk X B own cc nL d) (hd : decode cc pc = .ok (.ineg, 1))  (kk : zW X B g (pc + 1) lv (.int (-x) :: st)) : zW X B g pc lv (.int x :: st) := by
  obtain ⟨p, l, e, R, s, m, args, below, meth, c, Q, k1, sl1⟩ := X
  obtain ⟨hx, hb, hml, hown, hts, hK, hSt, hR, hlk⟩ := o
  intro H locs ls hP hD hS hl
  exact lv_ineg hx hb hd (kk H locs ls hP hD hS hl)
theorem z_ladd {X : zX} {B : zB} {g : Nat → va_E} {own : String} {cc : ByteArray} {nL d pc : Nat} {lv : List (Nat × Value)} {st : List Value} {x y : Int64} (o : zOk X B own cc nL d) (hd : decode cc pc = .ok (.ladd, 1))  (kk : zW X B g (pc + 1) lv (.long (x + y) :: st)) : zW X B g pc lv (.long y :: .long x :: st) := by
  obtain ⟨p, l, e, R, s, m, args, below, meth, c, Q, k1, sl1⟩ := X
  obtain ⟨hx, hb, hml, hown, hts, hK, hSt, hR, hlk⟩ := o
  intro H locs ls hP hD hS hl
  exact lv_ladd hx hb hd (kk H locs ls hP hD hS hl)
theorem z_lsub {X : zX} {B : zB} {g : Nat → va_E} {own : String} {cc : ByteArray} {nL d pc : Nat} {lv : List (Nat × Value)} {st : List Value} {x y : Int64} (o : zOk X B own cc nL d) (hd : decode cc pc = .ok (.lsub, 1))  (kk : zW X B g (pc + 1) lv (.long (x - y) :: st)) : zW X B g pc lv (.long y :: .long x :: st) := by
  obtain ⟨p, l, e, R, s, m, args, below, meth, c, Q, k1, sl1⟩ := X
  obtain ⟨hx, hb, hml, hown, hts, hK, hSt, hR, hlk⟩ := o
  intro H locs ls hP hD hS hl
  exact lv_lsub hx hb hd (kk H locs ls hP hD hS hl)
theorem z_land {X : zX} {B : zB} {g : Nat → va_E} {own : String} {cc : ByteArray} {nL d pc : Nat} {lv : List (Nat × Value)} {st : List Value} {x y : Int64} (o : zOk X B own cc nL d) (hd : decode cc pc = .ok (.land, 1))  (kk : zW X B g (pc + 1) lv (.long (x &&& y) :: st)) : zW X B g pc lv (.long y :: .long x :: st) := by
  obtain ⟨p, l, e, R, s, m, args, below, meth, c, Q, k1, sl1⟩ := X
  obtain ⟨hx, hb, hml, hown, hts, hK, hSt, hR, hlk⟩ := o
  intro H locs ls hP hD hS hl
  exact lv_land hx hb hd (kk H locs ls hP hD hS hl)
theorem z_lor {X : zX} {B : zB} {g : Nat → va_E} {own : String} {cc : ByteArray} {nL d pc : Nat} {lv : List (Nat × Value)} {st : List Value} {x y : Int64} (o : zOk X B own cc nL d) (hd : decode cc pc = .ok (.lor, 1))  (kk : zW X B g (pc + 1) lv (.long (x ||| y) :: st)) : zW X B g pc lv (.long y :: .long x :: st) := by
  obtain ⟨p, l, e, R, s, m, args, below, meth, c, Q, k1, sl1⟩ := X
  obtain ⟨hx, hb, hml, hown, hts, hK, hSt, hR, hlk⟩ := o
  intro H locs ls hP hD hS hl
  exact lv_lor hx hb hd (kk H locs ls hP hD hS hl)
theorem z_lxor {X : zX} {B : zB} {g : Nat → va_E} {own : String} {cc : ByteArray} {nL d pc : Nat} {lv : List (Nat × Value)} {st : List Value} {x y : Int64} (o : zOk X B own cc nL d) (hd : decode cc pc = .ok (.lxor, 1))  (kk : zW X B g (pc + 1) lv (.long (x ^^^ y) :: st)) : zW X B g pc lv (.long y :: .long x :: st) := by
  obtain ⟨p, l, e, R, s, m, args, below, meth, c, Q, k1, sl1⟩ := X
  obtain ⟨hx, hb, hml, hown, hts, hK, hSt, hR, hlk⟩ := o
  intro H locs ls hP hD hS hl
  exact lv_lxor hx hb hd (kk H locs ls hP hD hS hl)
def ziushr (x y : Int32) : Int32 := (x.toUInt32 >>> (y.toUInt32 &&& Int32.toUInt32 31)).toInt32
def zlushr (x : Int64) (y : Int32) : Int64 := (x.toUInt64 >>> (y.toInt64.toUInt64 &&& Int64.toUInt64 63)).toInt64
def zlshl (x : Int64) (y : Int32) : Int64 := x <<< (y.toInt64 &&& 63)
def zlshr (x : Int64) (y : Int32) : Int64 := x >>> (y.toInt64 &&& 63)
theorem z_iushr {X : zX} {B : zB} {g : Nat → va_E} {own : String} {cc : ByteArray} {nL d pc : Nat} {lv : List (Nat × Value)} {st : List Value} {x y : Int32} (o : zOk X B own cc nL d) (hd : decode cc pc = .ok (.iushr, 1))  (kk : zW X B g (pc + 1) lv (.int (ziushr x y) :: st)) : zW X B g pc lv (.int y :: .int x :: st) := by
  obtain ⟨p, l, e, R, s, m, args, below, meth, c, Q, k1, sl1⟩ := X
  obtain ⟨hx, hb, hml, hown, hts, hK, hSt, hR, hlk⟩ := o
  intro H locs ls hP hD hS hl
  exact lv_iushr hx hb hd (v := ziushr x y) rfl (kk H locs ls hP hD hS hl)
theorem z_lushr {X : zX} {B : zB} {g : Nat → va_E} {own : String} {cc : ByteArray} {nL d pc : Nat} {lv : List (Nat × Value)} {st : List Value} {x : Int64} {y : Int32} (o : zOk X B own cc nL d) (hd : decode cc pc = .ok (.lushr, 1))  (kk : zW X B g (pc + 1) lv (.long (zlushr x y) :: st)) : zW X B g pc lv (.int y :: .long x :: st) := by
  obtain ⟨p, l, e, R, s, m, args, below, meth, c, Q, k1, sl1⟩ := X
  obtain ⟨hx, hb, hml, hown, hts, hK, hSt, hR, hlk⟩ := o
  intro H locs ls hP hD hS hl
  exact lv_lushr hx hb hd (v := zlushr x y) rfl (kk H locs ls hP hD hS hl)
theorem z_lshl {X : zX} {B : zB} {g : Nat → va_E} {own : String} {cc : ByteArray} {nL d pc : Nat} {lv : List (Nat × Value)} {st : List Value} {x : Int64} {y : Int32} (o : zOk X B own cc nL d) (hd : decode cc pc = .ok (.lshl, 1))  (kk : zW X B g (pc + 1) lv (.long (zlshl x y) :: st)) : zW X B g pc lv (.int y :: .long x :: st) := by
  obtain ⟨p, l, e, R, s, m, args, below, meth, c, Q, k1, sl1⟩ := X
  obtain ⟨hx, hb, hml, hown, hts, hK, hSt, hR, hlk⟩ := o
  intro H locs ls hP hD hS hl
  exact lv_lshl hx hb hd (v := zlshl x y) rfl (kk H locs ls hP hD hS hl)
theorem z_lshr {X : zX} {B : zB} {g : Nat → va_E} {own : String} {cc : ByteArray} {nL d pc : Nat} {lv : List (Nat × Value)} {st : List Value} {x : Int64} {y : Int32} (o : zOk X B own cc nL d) (hd : decode cc pc = .ok (.lshr, 1))  (kk : zW X B g (pc + 1) lv (.long (zlshr x y) :: st)) : zW X B g pc lv (.int y :: .long x :: st) := by
  obtain ⟨p, l, e, R, s, m, args, below, meth, c, Q, k1, sl1⟩ := X
  obtain ⟨hx, hb, hml, hown, hts, hK, hSt, hR, hlk⟩ := o
  intro H locs ls hP hD hS hl
  exact lv_lshr hx hb hd (v := zlshr x y) rfl (kk H locs ls hP hD hS hl)
theorem z_i2l {X : zX} {B : zB} {g : Nat → va_E} {own : String} {cc : ByteArray} {nL d pc : Nat} {lv : List (Nat × Value)} {st : List Value} {x : Int32} (o : zOk X B own cc nL d) (hd : decode cc pc = .ok (.i2l, 1))  (kk : zW X B g (pc + 1) lv (.long x.toInt64 :: st)) : zW X B g pc lv (.int x :: st) := by
  obtain ⟨p, l, e, R, s, m, args, below, meth, c, Q, k1, sl1⟩ := X
  obtain ⟨hx, hb, hml, hown, hts, hK, hSt, hR, hlk⟩ := o
  intro H locs ls hP hD hS hl
  exact lv_i2l hx hb hd rfl (kk H locs ls hP hD hS hl)
theorem z_l2i {X : zX} {B : zB} {g : Nat → va_E} {own : String} {cc : ByteArray} {nL d pc : Nat} {lv : List (Nat × Value)} {st : List Value} {x : Int64} (o : zOk X B own cc nL d) (hd : decode cc pc = .ok (.l2i, 1))  (kk : zW X B g (pc + 1) lv (.int x.toInt32 :: st)) : zW X B g pc lv (.long x :: st) := by
  obtain ⟨p, l, e, R, s, m, args, below, meth, c, Q, k1, sl1⟩ := X
  obtain ⟨hx, hb, hml, hown, hts, hK, hSt, hR, hlk⟩ := o
  intro H locs ls hP hD hS hl
  exact lv_l2i hx hb hd rfl (kk H locs ls hP hD hS hl)
theorem z_i2b {X : zX} {B : zB} {g : Nat → va_E} {own : String} {cc : ByteArray} {nL d pc : Nat} {lv : List (Nat × Value)} {st : List Value} {x : Int32} (o : zOk X B own cc nL d) (hd : decode cc pc = .ok (.i2b, 1))  (kk : zW X B g (pc + 1) lv (.int x.toInt8.toInt32 :: st)) : zW X B g pc lv (.int x :: st) := by
  obtain ⟨p, l, e, R, s, m, args, below, meth, c, Q, k1, sl1⟩ := X
  obtain ⟨hx, hb, hml, hown, hts, hK, hSt, hR, hlk⟩ := o
  intro H locs ls hP hD hS hl
  exact lv_i2b hx hb hd rfl (kk H locs ls hP hD hS hl)
theorem z_i2s {X : zX} {B : zB} {g : Nat → va_E} {own : String} {cc : ByteArray} {nL d pc : Nat} {lv : List (Nat × Value)} {st : List Value} {x : Int32} (o : zOk X B own cc nL d) (hd : decode cc pc = .ok (.i2s, 1))  (kk : zW X B g (pc + 1) lv (.int x.toInt16.toInt32 :: st)) : zW X B g pc lv (.int x :: st) := by
  obtain ⟨p, l, e, R, s, m, args, below, meth, c, Q, k1, sl1⟩ := X
  obtain ⟨hx, hb, hml, hown, hts, hK, hSt, hR, hlk⟩ := o
  intro H locs ls hP hD hS hl
  exact lv_i2s hx hb hd rfl (kk H locs ls hP hD hS hl)
theorem z_i2c {X : zX} {B : zB} {g : Nat → va_E} {own : String} {cc : ByteArray} {nL d pc : Nat} {lv : List (Nat × Value)} {st : List Value} {x : Int32} (o : zOk X B own cc nL d) (hd : decode cc pc = .ok (.i2c, 1))  (kk : zW X B g (pc + 1) lv (.int (x.toUInt32 % 65536).toInt32 :: st)) : zW X B g pc lv (.int x :: st) := by
  obtain ⟨p, l, e, R, s, m, args, below, meth, c, Q, k1, sl1⟩ := X
  obtain ⟨hx, hb, hml, hown, hts, hK, hSt, hR, hlk⟩ := o
  intro H locs ls hP hD hS hl
  exact lv_i2c hx hb hd rfl (kk H locs ls hP hD hS hl)
theorem z_dup {X : zX} {B : zB} {g : Nat → va_E} {own : String} {cc : ByteArray} {nL d pc : Nat} {lv : List (Nat × Value)} {st : List Value} {va : Value} (o : zOk X B own cc nL d) (hd : decode cc pc = .ok (.dup, 1)) (h1 : va.category = 1) (kk : zW X B g (pc + 1) lv (va :: va :: st)) : zW X B g pc lv (va :: st) := by
  obtain ⟨p, l, e, R, s, m, args, below, meth, c, Q, k1, sl1⟩ := X
  obtain ⟨hx, hb, hml, hown, hts, hK, hSt, hR, hlk⟩ := o
  intro H locs ls hP hD hS hl
  exact lv_dup hx hb hd h1 (kk H locs ls hP hD hS hl)
theorem z_pop {X : zX} {B : zB} {g : Nat → va_E} {own : String} {cc : ByteArray} {nL d pc : Nat} {lv : List (Nat × Value)} {st : List Value} {va : Value} (o : zOk X B own cc nL d) (hd : decode cc pc = .ok (.pop, 1)) (h1 : va.category = 1) (kk : zW X B g (pc + 1) lv (st)) : zW X B g pc lv (va :: st) := by
  obtain ⟨p, l, e, R, s, m, args, below, meth, c, Q, k1, sl1⟩ := X
  obtain ⟨hx, hb, hml, hown, hts, hK, hSt, hR, hlk⟩ := o
  intro H locs ls hP hD hS hl
  exact lv_pop hx hb hd h1 (kk H locs ls hP hD hS hl)
theorem z_dup_x1 {X : zX} {B : zB} {g : Nat → va_E} {own : String} {cc : ByteArray} {nL d pc : Nat} {lv : List (Nat × Value)} {st : List Value} {va vb : Value} (o : zOk X B own cc nL d) (hd : decode cc pc = .ok (.dup_x1, 1)) (h1 : va.category = 1) (h2 : vb.category = 1) (kk : zW X B g (pc + 1) lv (va :: vb :: va :: st)) : zW X B g pc lv (va :: vb :: st) := by
  obtain ⟨p, l, e, R, s, m, args, below, meth, c, Q, k1, sl1⟩ := X
  obtain ⟨hx, hb, hml, hown, hts, hK, hSt, hR, hlk⟩ := o
  intro H locs ls hP hD hS hl
  exact lv_dup_x1 hx hb hd h1 h2 (kk H locs ls hP hD hS hl)
theorem z_dup_x2 {X : zX} {B : zB} {g : Nat → va_E} {own : String} {cc : ByteArray} {nL d pc : Nat} {lv : List (Nat × Value)} {st : List Value} {va vb vd : Value} (o : zOk X B own cc nL d) (hd : decode cc pc = .ok (.dup_x2, 1)) (h1 : va.category = 1) (h2 : vb.category = 1) (h3 : vd.category = 1) (kk : zW X B g (pc + 1) lv (va :: vb :: vd :: va :: st)) : zW X B g pc lv (va :: vb :: vd :: st) := by
  obtain ⟨p, l, e, R, s, m, args, below, meth, c, Q, k1, sl1⟩ := X
  obtain ⟨hx, hb, hml, hown, hts, hK, hSt, hR, hlk⟩ := o
  intro H locs ls hP hD hS hl
  exact lv_dup_x2 hx hb hd h1 h2 h3 (kk H locs ls hP hD hS hl)
theorem z_dup2 {X : zX} {B : zB} {g : Nat → va_E} {own : String} {cc : ByteArray} {nL d pc : Nat} {lv : List (Nat × Value)} {st : List Value} {va vb : Value} (o : zOk X B own cc nL d) (hd : decode cc pc = .ok (.dup2, 1)) (h1 : va.category = 1) (h2 : vb.category = 1) (kk : zW X B g (pc + 1) lv (va :: vb :: va :: vb :: st)) : zW X B g pc lv (va :: vb :: st) := by
  obtain ⟨p, l, e, R, s, m, args, below, meth, c, Q, k1, sl1⟩ := X
  obtain ⟨hx, hb, hml, hown, hts, hK, hSt, hR, hlk⟩ := o
  intro H locs ls hP hD hS hl
  exact lv_dup2_11 hx hb hd h1 h2 (kk H locs ls hP hD hS hl)
theorem z_goto {X : zX} {B : zB} {g : Nat → va_E} {own : String} {cc : ByteArray} {nL d pc : Nat} {lv : List (Nat × Value)} {st : List Value} {off : Int} {tgt : Nat} (o : zOk X B own cc nL d) (hd : decode cc pc = .ok (.goto off, 3)) (ht : (pc : Int) + off = (tgt : Int)) (kk : zW X B g tgt lv (st)) : zW X B g pc lv (st) := by
  obtain ⟨p, l, e, R, s, m, args, below, meth, c, Q, k1, sl1⟩ := X
  obtain ⟨hx, hb, hml, hown, hts, hK, hSt, hR, hlk⟩ := o
  intro H locs ls hP hD hS hl
  exact lv_goto hx hb hd ht (kk H locs ls hP hD hS hl)
theorem z_ifeq {X : zX} {B : zB} {g : Nat → va_E} {own : String} {cc : ByteArray} {nL d pc : Nat} {lv : List (Nat × Value)} {st : List Value} {x : Int32} {off : Int} {tgt : Nat} (o : zOk X B own cc nL d) (hd : decode cc pc = .ok (.ifCond .eq off, 3)) (ht : (pc : Int) + off = (tgt : Int)) (kt : x = 0 → zW X B g tgt lv st) (kf : ¬ x = 0 → zW X B g (pc + 3) lv st) : zW X B g pc lv (.int x :: st) := by
  obtain ⟨p, l, e, R, s, m, args, below, meth, c, Q, k1, sl1⟩ := X
  obtain ⟨hx, hb, hml, hown, hts, hK, hSt, hR, hlk⟩ := o
  intro H locs ls hP hD hS hl
  exact lv_if_eq hx hb hd ht (fun q => kt (q) H locs ls hP hD hS hl) (fun q => kf (q) H locs ls hP hD hS hl)
theorem z_iflt {X : zX} {B : zB} {g : Nat → va_E} {own : String} {cc : ByteArray} {nL d pc : Nat} {lv : List (Nat × Value)} {st : List Value} {x : Int32} {off : Int} {tgt : Nat} (o : zOk X B own cc nL d) (hd : decode cc pc = .ok (.ifCond .lt off, 3)) (ht : (pc : Int) + off = (tgt : Int)) (kt : x < 0 → zW X B g tgt lv st) (kf : ¬ x < 0 → zW X B g (pc + 3) lv st) : zW X B g pc lv (.int x :: st) := by
  obtain ⟨p, l, e, R, s, m, args, below, meth, c, Q, k1, sl1⟩ := X
  obtain ⟨hx, hb, hml, hown, hts, hK, hSt, hR, hlk⟩ := o
  intro H locs ls hP hD hS hl
  exact lv_if_lt hx hb hd ht (fun q => kt (q) H locs ls hP hD hS hl) (fun q => kf (q) H locs ls hP hD hS hl)
theorem z_ifne {X : zX} {B : zB} {g : Nat → va_E} {own : String} {cc : ByteArray} {nL d pc : Nat} {lv : List (Nat × Value)} {st : List Value} {x : Int32} {off : Int} {tgt : Nat} (o : zOk X B own cc nL d) (hd : decode cc pc = .ok (.ifCond .ne off, 3)) (ht : (pc : Int) + off = (tgt : Int)) (kt : ¬ x = 0 → zW X B g tgt lv st) (kf : x = 0 → zW X B g (pc + 3) lv st) : zW X B g pc lv (.int x :: st) := by
  obtain ⟨p, l, e, R, s, m, args, below, meth, c, Q, k1, sl1⟩ := X
  obtain ⟨hx, hb, hml, hown, hts, hK, hSt, hR, hlk⟩ := o
  intro H locs ls hP hD hS hl
  exact lv_if_ne hx hb hd ht (fun q => kt (q) H locs ls hP hD hS hl) (fun q => kf (q) H locs ls hP hD hS hl)
theorem z_ifge {X : zX} {B : zB} {g : Nat → va_E} {own : String} {cc : ByteArray} {nL d pc : Nat} {lv : List (Nat × Value)} {st : List Value} {x : Int32} {off : Int} {tgt : Nat} (o : zOk X B own cc nL d) (hd : decode cc pc = .ok (.ifCond .ge off, 3)) (ht : (pc : Int) + off = (tgt : Int)) (kt : ¬ x < 0 → zW X B g tgt lv st) (kf : x < 0 → zW X B g (pc + 3) lv st) : zW X B g pc lv (.int x :: st) := by
  obtain ⟨p, l, e, R, s, m, args, below, meth, c, Q, k1, sl1⟩ := X
  obtain ⟨hx, hb, hml, hown, hts, hK, hSt, hR, hlk⟩ := o
  intro H locs ls hP hD hS hl
  exact lv_if_ge hx hb hd ht (fun q => kt (Int32.not_lt.mpr q) H locs ls hP hD hS hl) (fun q => kf (Int32.not_le.mp q) H locs ls hP hD hS hl)
theorem z_ifgt {X : zX} {B : zB} {g : Nat → va_E} {own : String} {cc : ByteArray} {nL d pc : Nat} {lv : List (Nat × Value)} {st : List Value} {x : Int32} {off : Int} {tgt : Nat} (o : zOk X B own cc nL d) (hd : decode cc pc = .ok (.ifCond .gt off, 3)) (ht : (pc : Int) + off = (tgt : Int)) (kt : 0 < x → zW X B g tgt lv st) (kf : ¬ 0 < x → zW X B g (pc + 3) lv st) : zW X B g pc lv (.int x :: st) := by
  obtain ⟨p, l, e, R, s, m, args, below, meth, c, Q, k1, sl1⟩ := X
  obtain ⟨hx, hb, hml, hown, hts, hK, hSt, hR, hlk⟩ := o
  intro H locs ls hP hD hS hl
  exact lv_if_gt hx hb hd ht (fun q => kt (q) H locs ls hP hD hS hl) (fun q => kf (q) H locs ls hP hD hS hl)
theorem z_ifle {X : zX} {B : zB} {g : Nat → va_E} {own : String} {cc : ByteArray} {nL d pc : Nat} {lv : List (Nat × Value)} {st : List Value} {x : Int32} {off : Int} {tgt : Nat} (o : zOk X B own cc nL d) (hd : decode cc pc = .ok (.ifCond .le off, 3)) (ht : (pc : Int) + off = (tgt : Int)) (kt : ¬ 0 < x → zW X B g tgt lv st) (kf : 0 < x → zW X B g (pc + 3) lv st) : zW X B g pc lv (.int x :: st) := by
  obtain ⟨p, l, e, R, s, m, args, below, meth, c, Q, k1, sl1⟩ := X
  obtain ⟨hx, hb, hml, hown, hts, hK, hSt, hR, hlk⟩ := o
  intro H locs ls hP hD hS hl
  exact lv_if_le hx hb hd ht (fun q => kt (Int32.not_lt.mpr q) H locs ls hP hD hS hl) (fun q => kf (Int32.not_le.mp q) H locs ls hP hD hS hl)
theorem z_icmpeq {X : zX} {B : zB} {g : Nat → va_E} {own : String} {cc : ByteArray} {nL d pc : Nat} {lv : List (Nat × Value)} {st : List Value} {x y : Int32} {off : Int} {tgt : Nat} (o : zOk X B own cc nL d) (hd : decode cc pc = .ok (.if_icmp .eq off, 3)) (ht : (pc : Int) + off = (tgt : Int)) (kt : x = y → zW X B g tgt lv st) (kf : ¬ x = y → zW X B g (pc + 3) lv st) : zW X B g pc lv (.int y :: .int x :: st) := by
  obtain ⟨p, l, e, R, s, m, args, below, meth, c, Q, k1, sl1⟩ := X
  obtain ⟨hx, hb, hml, hown, hts, hK, hSt, hR, hlk⟩ := o
  intro H locs ls hP hD hS hl
  exact lv_icmp_eq hx hb hd ht (fun q => kt (q) H locs ls hP hD hS hl) (fun q => kf (q) H locs ls hP hD hS hl)
theorem z_icmpne {X : zX} {B : zB} {g : Nat → va_E} {own : String} {cc : ByteArray} {nL d pc : Nat} {lv : List (Nat × Value)} {st : List Value} {x y : Int32} {off : Int} {tgt : Nat} (o : zOk X B own cc nL d) (hd : decode cc pc = .ok (.if_icmp .ne off, 3)) (ht : (pc : Int) + off = (tgt : Int)) (kt : ¬ x = y → zW X B g tgt lv st) (kf : x = y → zW X B g (pc + 3) lv st) : zW X B g pc lv (.int y :: .int x :: st) := by
  obtain ⟨p, l, e, R, s, m, args, below, meth, c, Q, k1, sl1⟩ := X
  obtain ⟨hx, hb, hml, hown, hts, hK, hSt, hR, hlk⟩ := o
  intro H locs ls hP hD hS hl
  exact lv_icmp_ne hx hb hd ht (fun q => kt (q) H locs ls hP hD hS hl) (fun q => kf (q) H locs ls hP hD hS hl)
theorem z_icmplt {X : zX} {B : zB} {g : Nat → va_E} {own : String} {cc : ByteArray} {nL d pc : Nat} {lv : List (Nat × Value)} {st : List Value} {x y : Int32} {off : Int} {tgt : Nat} (o : zOk X B own cc nL d) (hd : decode cc pc = .ok (.if_icmp .lt off, 3)) (ht : (pc : Int) + off = (tgt : Int)) (kt : x < y → zW X B g tgt lv st) (kf : ¬ x < y → zW X B g (pc + 3) lv st) : zW X B g pc lv (.int y :: .int x :: st) := by
  obtain ⟨p, l, e, R, s, m, args, below, meth, c, Q, k1, sl1⟩ := X
  obtain ⟨hx, hb, hml, hown, hts, hK, hSt, hR, hlk⟩ := o
  intro H locs ls hP hD hS hl
  exact lv_icmp_lt hx hb hd ht (fun q => kt (q) H locs ls hP hD hS hl) (fun q => kf (q) H locs ls hP hD hS hl)
theorem z_icmpge {X : zX} {B : zB} {g : Nat → va_E} {own : String} {cc : ByteArray} {nL d pc : Nat} {lv : List (Nat × Value)} {st : List Value} {x y : Int32} {off : Int} {tgt : Nat} (o : zOk X B own cc nL d) (hd : decode cc pc = .ok (.if_icmp .ge off, 3)) (ht : (pc : Int) + off = (tgt : Int)) (kt : ¬ x < y → zW X B g tgt lv st) (kf : x < y → zW X B g (pc + 3) lv st) : zW X B g pc lv (.int y :: .int x :: st) := by
  obtain ⟨p, l, e, R, s, m, args, below, meth, c, Q, k1, sl1⟩ := X
  obtain ⟨hx, hb, hml, hown, hts, hK, hSt, hR, hlk⟩ := o
  intro H locs ls hP hD hS hl
  exact lv_icmp_ge hx hb hd ht (fun q => kt (Int32.not_lt.mpr q) H locs ls hP hD hS hl) (fun q => kf (Int32.not_le.mp q) H locs ls hP hD hS hl)
theorem z_icmpgt {X : zX} {B : zB} {g : Nat → va_E} {own : String} {cc : ByteArray} {nL d pc : Nat} {lv : List (Nat × Value)} {st : List Value} {x y : Int32} {off : Int} {tgt : Nat} (o : zOk X B own cc nL d) (hd : decode cc pc = .ok (.if_icmp .gt off, 3)) (ht : (pc : Int) + off = (tgt : Int)) (kt : y < x → zW X B g tgt lv st) (kf : ¬ y < x → zW X B g (pc + 3) lv st) : zW X B g pc lv (.int y :: .int x :: st) := by
  obtain ⟨p, l, e, R, s, m, args, below, meth, c, Q, k1, sl1⟩ := X
  obtain ⟨hx, hb, hml, hown, hts, hK, hSt, hR, hlk⟩ := o
  intro H locs ls hP hD hS hl
  exact lv_icmp_gt hx hb hd ht (fun q => kt (q) H locs ls hP hD hS hl) (fun q => kf (q) H locs ls hP hD hS hl)
theorem z_icmple {X : zX} {B : zB} {g : Nat → va_E} {own : String} {cc : ByteArray} {nL d pc : Nat} {lv : List (Nat × Value)} {st : List Value} {x y : Int32} {off : Int} {tgt : Nat} (o : zOk X B own cc nL d) (hd : decode cc pc = .ok (.if_icmp .le off, 3)) (ht : (pc : Int) + off = (tgt : Int)) (kt : ¬ y < x → zW X B g tgt lv st) (kf : y < x → zW X B g (pc + 3) lv st) : zW X B g pc lv (.int y :: .int x :: st) := by
  obtain ⟨p, l, e, R, s, m, args, below, meth, c, Q, k1, sl1⟩ := X
  obtain ⟨hx, hb, hml, hown, hts, hK, hSt, hR, hlk⟩ := o
  intro H locs ls hP hD hS hl
  exact lv_icmp_le hx hb hd ht (fun q => kt (Int32.not_lt.mpr q) H locs ls hP hD hS hl) (fun q => kf (Int32.not_le.mp q) H locs ls hP hD hS hl)
