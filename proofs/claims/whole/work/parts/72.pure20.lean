/-! String constants as receivers; references set in the reader -/
theorem z_ldcS {X : zX} {B : zB} {g : Nat → va_E} {own : String} {cc : ByteArray} {nL d pc : Nat} {lv : List (Nat × Value)} {st : List Value} {ix k : Nat} {tx : String} (o : zOk X B own cc nL d) (hd : decode cc pc = .ok (.ldc ix, 2)) (hv : ∀ U : State, zSt B U → vk_R own ix tx (zsq B k) U) (kk : zW X B g (pc + 2) lv (.ref (zsq B k) :: st)) : zW X B g pc lv st := by
  obtain ⟨p, l, e, R, s, m, args, below, meth, c, Q, k1, sl1⟩ := X
  obtain ⟨hx, hb, hml, hown, hts, hK, hSt, hR, hlk⟩ := o
  intro H locs ls hP hD hS hl
  exact va_ldcS hx hb hown (hv _ hSt) hd (kk H locs ls hP hD hS hl)
theorem zSt_apk {B : zB} (U : State) (h : zSt B U) : vk_R "WalkFences$Law" 22 "apk" (zsq B 1) U := h.2.2.2.2.2.1
theorem zSt_cbd {B : zB} (U : State) (h : zSt B U) : vk_R "WalkFences$Law" 24 "cbd" (zsq B 2) U := h.2.2.2.2.2.2.1
theorem zSt_nil {B : zB} (U : State) (h : zSt B U) : vk_R "WalkFences$TextReader" 19 "" (zsq B 0) U := h.2.2.2.2.1
theorem z_sval {X : zX} {B : zB} {g : Nat → va_E} {own : String} {cc : ByteArray} {nL d pc : Nat} {lv : List (Nat × Value)} {st : List Value} {ix k : Nat} (o : zOk X B own cc nL d) (hd : decode cc pc = .ok (.getfield ix, 3)) (hk : k < 3) (hl0 : Cond.fieldLink own ix "java/lang/String" "value" "[B" ∈ zTB) (kk : zW X B g (pc + 3) lv (.ref (zsv B k) :: st)) : zW X B g pc lv (.ref (zsq B k) :: st) := by
  obtain ⟨p, l, e, R, s, m, args, below, meth, c, Q, k1, sl1⟩ := X
  obtain ⟨hx, hb, hml, hown, hts, hK, hSt, hR, hlk⟩ := o
  intro H locs ls hP hD hS hl
  exact vk_getf hx hb ((hSt.2.1.1 k hk).2.2.1) hS hown (hts _ hl0) (fun _ h => h) hd (kk H locs ls hP hD hS hl)
theorem z_scod {X : zX} {B : zB} {g : Nat → va_E} {own : String} {cc : ByteArray} {nL d pc : Nat} {lv : List (Nat × Value)} {st : List Value} {ix k : Nat} (o : zOk X B own cc nL d) (hd : decode cc pc = .ok (.getfield ix, 3)) (hk : k < 3) (hl0 : Cond.fieldLink own ix "java/lang/String" "coder" "B" ∈ zTB) (kk : zW X B g (pc + 3) lv (.int 0 :: st)) : zW X B g pc lv (.ref (zsq B k) :: st) := by
  obtain ⟨p, l, e, R, s, m, args, below, meth, c, Q, k1, sl1⟩ := X
  obtain ⟨hx, hb, hml, hown, hts, hK, hSt, hR, hlk⟩ := o
  intro H locs ls hP hD hS hl
  exact vk_getf hx hb ((hSt.2.1.1 k hk).2.1) hS hown (hts _ hl0) (fun _ h => h) hd (kk H locs ls hP hD hS hl)
theorem z_slen {X : zX} {B : zB} {g : Nat → va_E} {own : String} {cc : ByteArray} {nL d pc : Nat} {lv : List (Nat × Value)} {st : List Value} {k : Nat} {v : Int32} (o : zOk X B own cc nL d) (hd : decode cc pc = .ok (.arraylength, 1)) (hk : k < 3) (hv : Int32.ofNat (zslen.getD k 0) = v) (kk : zW X B g (pc + 1) lv (.int v :: st)) : zW X B g pc lv (.ref (zsv B k) :: st) := by
  obtain ⟨p, l, e, R, s, m, args, below, meth, c, Q, k1, sl1⟩ := X
  obtain ⟨hx, hb, hml, hown, hts, hK, hSt, hR, hlk⟩ := o
  intro H locs ls hP hD hS hl
  exact va_tlen hx hb ((hSt.2.1.1 k hk).2.2.2) hS hv hd (kk H locs ls hP hD hS hl)
theorem z_sbald {X : zX} {B : zB} {g : Nat → va_E} {own : String} {cc : ByteArray} {nL d pc : Nat} {lv : List (Nat × Value)} {st : List Value} {k : Nat} {j v : Int32} (o : zOk X B own cc nL d) (hd : decode cc pc = .ok (.baload, 1)) (hk : k < 3) (hin : vp_in j (zslen.getD k 0)) (hv : (zsbyt.getD k []).getD j.toNatClampNeg 0 = v) (kk : zW X B g (pc + 1) lv (.int v :: st)) : zW X B g pc lv (.int j :: .ref (zsv B k) :: st) := by
  obtain ⟨p, l, e, R, s, m, args, below, meth, c, Q, k1, sl1⟩ := X
  obtain ⟨hx, hb, hml, hown, hts, hK, hSt, hR, hlk⟩ := o
  intro H locs ls hP hD hS hl
  exact va_tb hx hb ((hSt.2.1.1 k hk).2.2.2) hS hin (congrArg Value.int hv) hd (kk H locs ls hP hD hS hl)
theorem z_compact {X : zX} {B : zB} {g : Nat → va_E} {own : String} {cc : ByteArray} {nL d pc : Nat} {lv : List (Nat × Value)} {st : List Value} {ix : Nat} (o : zOk X B own cc nL d) (hd : decode cc pc = .ok (.getstatic ix, 3)) (hl0 : Cond.fieldLink own ix "java/lang/String" "COMPACT_STRINGS" "Z" ∈ zTB) (kk : zW X B g (pc + 3) lv (.int 1 :: st)) : zW X B g pc lv st := by
  obtain ⟨p, l, e, R, s, m, args, below, meth, c, Q, k1, sl1⟩ := X
  obtain ⟨hx, hb, hml, hown, hts, hK, hSt, hR, hlk⟩ := o
  intro H locs ls hP hD hS hl
  exact va_gets hx hb hSt.2.2.2.1 hS hown (hts _ hl0) (fun _ h9 => h9) hd (kk H locs ls hP hD hS hl)
theorem z_callTi {X : zX} {B : zB} {g : Nat → va_E} {own : String} {cc : ByteArray} {nL d pc : Nat} {lv : List (Nat × Value)} {st : List Value} {ix maxL n d1 k : Nat} {y : MethodName} {bytes : ByteArray} {ret : Option FieldType} {As st0 : List Value} {post : Int32 → (Nat → va_E) → Prop} (o : zOk X B own cc nL d) (hd : decode cc pc = .ok (.invokevirtual ix, 3)) (hC : zCi B g y bytes maxL ret d1 (.ref (zsq B k) :: As) post) (hw : zVw own ix y bytes maxL ret n) (hdd : d1 < d) (hk : k < 3) (hy : y.cls = "java/lang/String") (hn : As.length = n) (hst : st0 = As.reverse ++ .ref (zsq B k) :: st) (hcat : (st.map fun v => v.category).sum ≤ 8) (kk : ∀ (r : Int32) (g1 : Nat → va_E), post r g1 → zW X B g1 (pc + 3) lv (.int r :: st)) : zW X B g pc lv st0 := by
  obtain ⟨p, l, e, R, s, m, args, below, meth, c, Q, k1, sl1⟩ := X
  obtain ⟨hx, hb, hml, hown, hts, hK, hSt, hR, hlk⟩ := o
  intro H locs ls hP hD hS hl
  have hrc : ∃ cell : Cell, H[zsq B k]? = some cell ∧ cell.vm.isStatics = false ∧ s.vm.findClass y.cls = some cell.cls := by
    rw [hy]
    exact vk_recv hSt.2.1 hk hS
  refine va_calli (va_runV (As := As) (rest := st) ⟨hx, hb, hml, hown, hts⟩ (hC l) (cwV n hts (zGoodV hw) rfl rfl rfl ⟨rfl, hw.2.2.2.2.2.1⟩ (zRoom hR hdd hw.2.2.2.2.2.2)) ⟨zIn_blind, hrc, fun U hU hW => ⟨rfl, zIn_of hP hD hK hSt hS hU hW⟩⟩ rfl hn (hl.1.trans hml) hst (lv_room hcat) hd ⟨hR.2.2.1, hR.2.2.2⟩) hS (fun q _ h => h) (fun q h => h) (fun r u t H1 locs1 ht hvm hp hb1 hz1 hk1 hS1 => ?_)
  obtain ⟨i1, i2, i3, i4⟩ := hb1
  rw [ht] at i1
  exact kk r u hp H1 locs1 ls i1 i2 hS1 hl
theorem zg_put67b {B : zB} {M : zM} {N : zN} : va_up (zg B M N) 67 (.inr (4, (zfs B M N 4 67).set 2 (zref B 5))) = zg B (zu M 67 2 1) N := by
  funext j
  by_cases hj : j = 67
  · subst hj
    rw [va_up_self, zg_o (c := 4) rfl (by decide)]
    simp [zfs, zu, va_up, upd]
  · rw [va_up_ne _ _ hj]
    exact zg_ne (by show M j = va_up M 67 _ j; rw [va_up_ne _ _ hj]) rfl
theorem zg_put67s {B : zB} {M : zM} {N : zN} {k : Nat} (hk : k < 3) : va_up (zg B M N) 67 (.inr (4, (zfs B M N 4 67).set 5 (.ref (zsq B k)))) = zg B (zu M 67 5 (nI k)) N := by
  funext j
  by_cases hj : j = 67
  · subst hj
    rw [va_up_self, zg_o (c := 4) rfl (by decide)]
    simp [zfs, zu, va_up, upd, nI_clamp (show k < 2 ^ 31 by omega)]
  · rw [va_up_ne _ _ hj]
    exact zg_ne (by show M j = va_up M 67 _ j; rw [va_up_ne _ _ hj]) rfl
theorem zo_put67b {X : zX} {B : zB} {M : zM} {N : zN} {own : String} {cc : ByteArray} {nL d pc : Nat} {lv : List (Nat × Value)} {st : List Value} {ix : Nat} (o : zOk X B own cc nL d) (hB : znn B = 95) (hd : decode cc pc = .ok (.putfield ix, 3)) (hF : zFldP own ix 4 2 (.array .byte)) (kk : zW X B (zg B (zu M 67 2 1) N) (pc + 3) lv st) : zW X B (zg B M N) pc lv (zref B 5 :: zref B 67 :: st) :=
  z_putf o hd hF (by rw [hB]; decide) (zg_o (c := 4) rfl (by decide)) rfl rfl (Nat.le_of_ble_eq_true rfl) (by rw [zg_put67b]; exact kk)
theorem zo_put67s {X : zX} {B : zB} {M : zM} {N : zN} {own : String} {cc : ByteArray} {nL d pc : Nat} {lv : List (Nat × Value)} {st : List Value} {ix k : Nat} (o : zOk X B own cc nL d) (hB : znn B = 95) (hk : k < 3) (hd : decode cc pc = .ok (.putfield ix, 3)) (hF : zFldP own ix 4 5 (.object "java/lang/String")) (kk : zW X B (zg B (zu M 67 5 (nI k)) N) (pc + 3) lv st) : zW X B (zg B M N) pc lv (.ref (zsq B k) :: zref B 67 :: st) :=
  z_putf o hd hF (by rw [hB]; decide) (zg_o (c := 4) rfl (by decide)) rfl rfl (Nat.le_of_ble_eq_true rfl) (by rw [zg_put67s hk]; exact kk)
