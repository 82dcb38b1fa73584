/-! the machine as the law finds it -/
theorem ki_p {s : State} {args : Array Value} {ty : FieldType} (hp : ∀ cA : ClassId, s.vm.findClass ("[" ++ ty.toString) = some cA → va_RA s cA ty) (h : (Cond.arrayClass ty).before args s = true) : ∃ cA : ClassId, ArrOfT s cA ty ∧ va_RA s cA ty := by
  obtain ⟨cA, k, comp, h1, h2, h3⟩ := Cond.arrayClass_spec h
  exact ⟨cA, fun N z => ⟨(fun k9 h9 => by cases h9), k, h2, comp, h3⟩, hp cA h1⟩
theorem ki_q {s : State} {args : Array Value} {C : String} (h : (Cond.arrayOver (.object C)).before args s = true) : ∃ cA : ClassId, ArrOfT s cA (.object C) ∧ va_RA s cA (.object C) := by
  obtain ⟨comp, c, k, h1, h2, h3, h4, h5⟩ := Cond.arrayOver_spec h
  exact ⟨c, fun N z => ⟨(fun k9 h9 => by cases h9), k, h3, comp, h4⟩, k, comp, h3, h4, h1, h5⟩
theorem law_K {s : State} {args : Array Value} (hts : ∀ w ∈ lw_tbl, w.before args s = true) : ∃ (D : va_G) (cy : Nat → ClassId), va_K D zcl (zty cy) s := by
  have hz : ∀ w ∈ zTB, w.before args s = true := fun w hw => hts w (zTB_lw hw)
  have h1 : ∀ k : Nat, ∃ q : ClassId × (Nat → Nat), ∀ x : vw_C, zcl[k]? = some x → u_Kn s x.1 x.2.1 x.2.2 q.1 q.2 := by
    intro k
    by_cases hk : k < 8
    · rcases (show k = 0 ∨ k = 1 ∨ k = 2 ∨ k = 3 ∨ k = 4 ∨ k = 5 ∨ k = 6 ∨ k = 7 by omega) with rfl | rfl | rfl | rfl | rfl | rfl | rfl | rfl
      · obtain ⟨c, i, h⟩ := u_known (C := RX0) (T := TX0) (N := 6) (n := 6) hz zi_X0 (hts (.instantiable RX0 6) (List.mem_of_getElem? (i := 107) (by decide +kernel)))
        exact ⟨(c, i), fun x hx => by cases hx; exact h⟩
      · obtain ⟨c, i, h⟩ := u_known (C := RX2) (T := TX2) (N := 4) (n := 4) hz zi_X2 (hts (.instantiable RX2 4) (List.mem_of_getElem? (i := 145) (by decide +kernel)))
        exact ⟨(c, i), fun x hx => by cases hx; exact h⟩
      · obtain ⟨c, i, h⟩ := u_known (C := RX3) (T := TX3) (N := 15) (n := 15) hz zi_X3 (hts (.instantiable RX3 15) (List.mem_of_getElem? (i := 98) (by decide +kernel)))
        exact ⟨(c, i), fun x hx => by cases hx; exact h⟩
      · obtain ⟨c, i, h⟩ := u_known (C := RX4) (T := TX4) (N := 3) (n := 3) hz zi_X4 (hts (.instantiable RX4 3) (List.mem_of_getElem? (i := 284) (by decide +kernel)))
        exact ⟨(c, i), fun x hx => by cases hx; exact h⟩
      · obtain ⟨c, i, h⟩ := u_known (C := RX5) (T := TX5) (N := 6) (n := 6) hz zi_X5 (hts (.instantiable RX5 6) (List.mem_of_getElem? (i := 227) (by decide +kernel)))
        exact ⟨(c, i), fun x hx => by cases hx; exact h⟩
      · obtain ⟨c, i, h⟩ := u_known (C := RX6) (T := TX6) (N := 6) (n := 6) hz zi_X6 (hts (.instantiable RX6 6) (List.mem_of_getElem? (i := 255) (by decide +kernel)))
        exact ⟨(c, i), fun x hx => by cases hx; exact h⟩
      · obtain ⟨c, i, h⟩ := u_known (C := RX7) (T := TX7) (N := 8) (n := 8) hz zi_X7 (hts (.instantiable RX7 8) (List.mem_of_getElem? (i := 90) (by decide +kernel)))
        exact ⟨(c, i), fun x hx => by cases hx; exact h⟩
      · obtain ⟨c, i, h⟩ := u_known (C := RX8) (T := TX8) (N := 20) (n := 20) hz zi_X8 (hts (.instantiable RX8 20) (List.mem_of_getElem? (i := 874) (by decide +kernel)))
        exact ⟨(c, i), fun x hx => by cases hx; exact h⟩
    · exact ⟨(0, fun _ => 0), fun x hx => by
        have hl : zcl.length = 8 := rfl
        rw [List.getElem?_eq_none (by omega)] at hx; cases hx⟩
  obtain ⟨D, hD⟩ := Classical.skolem.mp h1
  obtain ⟨cb, kb⟩ := ki_p (s := s) (ty := .byte) (fun _ h => h) (hts (.arrayClass .byte) (List.mem_of_getElem? (i := 143) (by decide +kernel)))
  obtain ⟨ci, ki⟩ := ki_p (s := s) (ty := .int) (fun _ h => h) (hts (.arrayClass .int) (List.mem_of_getElem? (i := 142) (by decide +kernel)))
  obtain ⟨cl, kl⟩ := ki_p (s := s) (ty := .long) (fun _ h => h) (hts (.arrayClass .long) (List.mem_of_getElem? (i := 144) (by decide +kernel)))
  obtain ⟨cf, kf⟩ := ki_q (hts (.arrayOver (.object "WalkFences$Fence")) (List.mem_of_getElem? (i := 104) (by decide +kernel)))
  obtain ⟨cw, kw⟩ := ki_q (hts (.arrayOver (.object "WalkFences$Law")) (List.mem_of_getElem? (i := 106) (by decide +kernel)))
  obtain ⟨cs, ks⟩ := ki_q (hts (.arrayOver (.object "WalkFences$Sheet")) (List.mem_of_getElem? (i := 283) (by decide +kernel)))
  refine ⟨(fun k => (D k).1, fun k => (D k).2), fun k => [cb, ci, cl, cf, cw, cs].getD k cb, fun k x hx => hD k x hx, fun k q hq => ?_⟩
  by_cases hk : k < 6
  · rcases (show k = 0 ∨ k = 1 ∨ k = 2 ∨ k = 3 ∨ k = 4 ∨ k = 5 by omega) with rfl | rfl | rfl | rfl | rfl | rfl
    · cases hq; exact kb
    · cases hq; exact ki
    · cases hq; exact kl
    · cases hq; exact kf
    · cases hq; exact kw
    · cases hq; exact ks
  · rw [List.getElem?_eq_none (show (zty _).length ≤ k by show 6 ≤ k; omega)] at hq; cases hq
def law_tm : Nat → Term := fun i => if i = 0 then .string "WalkFences$TextReader" 19 else if i = 1 then .string "WalkFences$Law" 22 else .string "WalkFences$Law" 24
theorem law_zSt {s : State} {args : Array Value} (hts : ∀ w ∈ lw_tbl, w.before args s = true) (hgv : (Jvm.Cond.and given_1 narrow_1).before args s = true) : ∃ (sq sv : Nat → Nat), ∀ B : zB, zlo B = s.heap.size → zsq B = sq → zsv B = sv → zSt B s := by
  have hs := flat_of_before _ hgv
  have hA : ∀ a : Nat, a < s.heap.size → ¬ zA s.heap.size a := fun a ha h => absurd (show s.heap.size ≤ a from h) (by omega)
  obtain ⟨sq, sv, hS, hE⟩ := vk_Sof (args := args) (s := s) (N := 3) (tm := law_tm) (len := zslen) (byt := zsbyt) (A := zA s.heap.size) (fun i hi => by rcases (show i = 0 ∨ i = 1 ∨ i = 2 by omega) with rfl | rfl | rfl <;> decide)
    (fun i hi => by rcases (show i = 0 ∨ i = 1 ∨ i = 2 by omega) with rfl | rfl | rfl <;> exact hs _ (by decide +kernel))
    (fun i hi => by rcases (show i = 0 ∨ i = 1 ∨ i = 2 by omega) with rfl | rfl | rfl <;> exact hs _ (by decide +kernel))
    (fun i hi => by rcases (show i = 0 ∨ i = 1 ∨ i = 2 by omega) with rfl | rfl | rfl <;> exact hs _ (by decide +kernel))
    (fun i hi => by rcases (show i = 0 ∨ i = 1 ∨ i = 2 by omega) with rfl | rfl | rfl <;> exact hs _ (by decide +kernel))
    (fun i hi j hj => by
      rcases (show i = 0 ∨ i = 1 ∨ i = 2 by omega) with rfl | rfl | rfl
      · exact absurd hj (Nat.not_lt_zero j)
      · have hj : j < 3 := hj
        rcases (show j = 0 ∨ j = 1 ∨ j = 2 by omega) with rfl | rfl | rfl <;> exact hs _ (by decide +kernel)
      · have hj : j < 3 := hj
        rcases (show j = 0 ∨ j = 1 ∨ j = 2 by omega) with rfl | rfl | rfl <;> exact hs _ (by decide +kernel))
    (fun i j hi hj hij => by
      rcases (show i = 0 ∨ i = 1 ∨ i = 2 by omega) with rfl | rfl | rfl <;> rcases (show j = 0 ∨ j = 1 ∨ j = 2 by omega) with rfl | rfl | rfl <;> first | exact absurd rfl hij | exact Or.inl (hs _ (by decide +kernel)) | exact Or.inr (hs _ (by decide +kernel))) hA
  refine ⟨sq, sv, fun B e1 e2 e3 => ?_⟩
  obtain ⟨t, ht, hT⟩ := va_Tof (args := args) (s := s) (tm := .static "WalkFences" "ABOVE" "[I") (ty := .int) (N := 7) (f := fun j => .int (([-1, 0, 0, 0, 1, 2, 0] : List Int32).getD j 0)) (A := zA s.heap.size) (by decide) (hs _ (by decide +kernel)) (va_eqt (hs _ (by decide +kernel))) (fun j hj => by
    rcases (show j = 0 ∨ j = 1 ∨ j = 2 ∨ j = 3 ∨ j = 4 ∨ j = 5 ∨ j = 6 by omega) with rfl | rfl | rfl | rfl | rfl | rfl | rfl <;> exact va_eqt (hs _ (by decide +kernel))) hA
  unfold zSt
  rw [e1, e2, e3]
  refine ⟨⟨t, va_Zref (hts (.laysStatic "WalkFences" "ABOVE" "[I") (List.mem_of_getElem? (i := 448) (by decide +kernel))) (hts (.initialized "WalkFences") (List.mem_of_getElem? (i := 71) (by decide +kernel))) ht hA, hT⟩, hS, Nat.le_refl _, va_Zof (hts (.laysStatic "java/lang/String" "COMPACT_STRINGS" "Z") (List.mem_of_getElem? (i := 553) (by decide +kernel))) (hts (.initialized "java/lang/String") (List.mem_of_getElem? (i := 82) (by decide +kernel))) (va_eqt (hs _ (by decide +kernel))) hA, ?_, ?_, ?_, ?_⟩
  · exact vk_R.of (A := args) (hts (.stringRef "WalkFences$TextReader" 19 "") (List.mem_of_getElem? (i := 232) (by decide +kernel))) (hE 0 (by decide))
  · exact vk_R.of (A := args) (hts (.stringRef "WalkFences$Law" 22 "apk") (List.mem_of_getElem? (i := 506) (by decide +kernel))) (hE 1 (by decide))
  · exact vk_R.of (A := args) (hts (.stringRef "WalkFences$Law" 24 "cbd") (List.mem_of_getElem? (i := 507) (by decide +kernel))) (hE 2 (by decide))
  · exact List.forall_mem_cons.mpr ⟨va_Nw.of (A := args) rfl (hts _ (List.mem_of_getElem? (i := 108) (by decide +kernel))), List.forall_mem_cons.mpr ⟨va_Nw.of (A := args) rfl (hts _ (List.mem_of_getElem? (i := 228) (by decide +kernel))), List.forall_mem_cons.mpr ⟨va_Nw.of (A := args) rfl (hts _ (List.mem_of_getElem? (i := 256) (by decide +kernel))), List.forall_mem_cons.mpr ⟨va_Nw.of (A := args) rfl (hts _ (List.mem_of_getElem? (i := 285) (by decide +kernel))), List.forall_mem_cons.mpr ⟨va_Nw.of (A := args) rfl (hts _ (List.mem_of_getElem? (i := 657) (by decide +kernel))), fun q hq => absurd hq List.not_mem_nil⟩⟩⟩⟩⟩
