/-! objects are made (2) -/
theorem zv_asc {X : zX} {B : zB} {w0 L M : va_W} {pc : Nat} {lv : List (Nat × Value)} {st : List Value} (h : zV X B (w0 ++ (L ++ M)) pc lv st) : zV X B ((w0 ++ L) ++ M) pc lv st := by rw [List.append_assoc]; exact h
theorem zv_csa {X : zX} {B : zB} {w0 L M : va_W} {pc : Nat} {lv : List (Nat × Value)} {st : List Value} (h : zV X B ((w0 ++ L) ++ M) pc lv st) : zV X B (w0 ++ (L ++ M)) pc lv st := by rw [List.append_assoc] at h; exact h
theorem zv_callN {X : zX} {B : zB} {w0 : va_W} {own : String} {cc : ByteArray} {nL d pc ix maxL n d1 q a b mc ms mc1 ms1 : Nat} {lv : List (Nat × Value)} {st st0 : List Value} {e0 : va_E} {y : MethodName} {bytes : ByteArray} {As : List Value} {host : String} {post : va_W → Prop} (o : zOk X B own cc nL d) (hr : zRm X mc ms) (hax : zAX X) (hd : decode cc pc = .ok (.invokespecial ix, 3)) (hC : zCn B w0 q e0 y bytes maxL d1 mc1 ms1 (.ref q :: As) post) (h1 : (own, ix, y, host) ∈ zNest) (h2 : Cond.instanceMethod y ∈ zTB) (h3 : Cond.initialized y.cls ∈ zTB) (h4 : Cond.code y bytes maxL none ∈ zTB) (hy1 : y.name = "<init>") (hyd : y.cls ≠ "java/lang/invoke/MethodHandle" ∧ y.cls ≠ "java/lang/invoke/VarHandle" ∧ (parseMethodDescriptor y.desc).map (fun d => d.parameters.length) = some n) (hdd : d1 < d) (hmx : maxL ≤ 41) (hn : As.length = n) (hst : st0 = As.reverse ++ .ref q :: st) (hcat : (st.map fun v => v.category).sum ≤ 8) (ha : a + mc1 ≤ mc) (hb2 : b + ms1 ≤ ms)
    (kk : ∀ w : va_W, post w → zV (zXc X (a + mc1) (b + ms1)) B (w0 ++ w) (pc + 3) lv st) : zV (zXc X a b) B (w0 ++ [(q, e0)]) pc lv st0 := by
  obtain ⟨p, l, e, R, s, m, args, below, meth, c, Q, k1, sl1⟩ := X
  obtain ⟨hx, hb, hml, hown, hts, hK, hSt, hR, hlk⟩ := o
  obtain ⟨r1, r2⟩ := hr
  have hax : zAO s := hax
  intro H locs ls hP hD hS hl
  have hRm : (zRc d1 mc1 ms1).frames + 1 ≤ R.frames ∧ 8 + (maxL + 11) + (zRc d1 mc1 ms1).locals ≤ R.locals := zRoom (d' := d1) ⟨hR.1, hR.2.1, hR.2.2.1, hR.2.2.2⟩ hdd hmx
  refine va_callv (va_runIN (As := As) (rest := st) ⟨hx, hb, hml, hown, hts⟩ (hC l) ⟨va_cnB n hts (zGood h4) rfl rfl rfl (hSt.2.2.2.2.2.2.2 _ h1) (hts _ h3) hyd hRm, hy1, hts _ h2⟩ ⟨zInW_blind, fun U hU hW => ⟨rfl, by rw [hU]; exact hP, hD, va_K.moved hW.alike hK, zSt_kept hSt hW hS hU, hax.moved hW.alike⟩⟩ rfl hn (hl.1.trans hml) hst (lv_room hcat) hd ⟨by show k1 + a + mc1 ≤ _; omega, by show sl1 + b + ms1 ≤ _; omega⟩) hS (fun q _ h => h) (fun q h => h) (fun u t H1 locs1 ht hvm hp hb1 hz1 hk1 hS1 => ?_)
  obtain ⟨i1, i2, i3, i4, i5⟩ := hb1
  rw [ht] at i1
  have h9 := kk u hp H1 locs1 ls i1 i2 hS1 hl
  rw [← Nat.add_assoc, ← Nat.add_assoc] at h9
  exact h9
theorem zoj_i : Cond.instanceMethod objectInit ∈ zTB := zTB_in (k := 95) (by decide +kernel) rfl
theorem zoj_c : Cond.code objectInit ⟨#[0xb1]⟩ 1 none ∈ zTB := zTB_in (k := 96) (by decide +kernel) rfl
