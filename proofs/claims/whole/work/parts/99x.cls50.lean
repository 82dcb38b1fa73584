/-! the two that the law makes, place for place -/
def law_ad (q0 q11 q12 : Nat) (a2 a4 a6 a8 a10 a14 a16 a18 a20 aM : Nat → Nat) : Nat → Nat := fun i => if i < 1 then q0 else if i < 23 then a2 (i - 1) else if i < 45 then a4 (i - 23) else if i < 67 then a6 (i - 45) else if i < 70 then a8 (i - 67) else if i < 72 then a10 (i - 70) else if i < 73 then q11 else if i < 74 then q12 else if i < 76 then a14 (i - 74) else if i < 78 then a16 (i - 76) else if i < 80 then a18 (i - 78) else if i < 82 then a20 (i - 80) else aM (i - 82)
def law_B (B : zB) (q0 q11 q12 : Nat) (a2 a4 a6 a8 a10 a14 a16 a18 a20 aM : Nat → Nat) : zB := zBa B (law_ad q0 q11 q12 a2 a4 a6 a8 a10 a14 a16 a18 a20 aM) 95
def law_g (B : zB) (q0 q11 q12 : Nat) (a2 a4 a6 a8 a10 a14 a16 a18 a20 aM : Nat → Nat) : Nat → va_E := zg (law_B B q0 q11 q12 a2 a4 a6 a8 a10 a14 a16 a18 a20 aM) zm0 zn0
set_option maxRecDepth 100000 in
theorem law_x0 (B : zB) (q0 q11 q12 : Nat) (a2 a4 a6 a8 a10 a14 a16 a18 a20 aM : Nat → Nat) : zEq (.inr (6, [.ref (a2 0), .ref (a4 0), .ref (a6 0), .ref (a8 0), .ref (a10 0), .ref q11, .ref q12, .int 0])) (law_g B q0 q11 q12 a2 a4 a6 a8 a10 a14 a16 a18 a20 aM 0) := Or.inl rfl
set_option maxRecDepth 100000 in
theorem law_x1 (B : zB) (q0 q11 q12 : Nat) (a2 a4 a6 a8 a10 a14 a16 a18 a20 aM : Nat → Nat) : zEq (.inr (2, [.ref (a2 1), .int 0, .ref (a2 2), .ref (a2 3), .int 0, .long 0, .long 0, .int 0, .int 1, .ref (a2 4), .int 0, .ref (a2 5), .ref (a2 6), .int 0, .ref (a2 7)])) (law_g B q0 q11 q12 a2 a4 a6 a8 a10 a14 a16 a18 a20 aM 1) := Or.inl rfl
set_option maxRecDepth 100000 in
theorem law_x2 (B : zB) (q0 q11 q12 : Nat) (a2 a4 a6 a8 a10 a14 a16 a18 a20 aM : Nat → Nat) : zEq (.inl (zcy B 3, 4, .inr (.inr (.inr (.inr (va_up (va_up (va_up (va_up (fun _ => none) 0 (some (a2 8))) 1 (some (a2 10))) 2 (some (a2 12))) 3 (some (a2 14)))))))) (law_g B q0 q11 q12 a2 a4 a6 a8 a10 a14 a16 a18 a20 aM 2) := Or.inr ⟨_, _, _, _, rfl, rfl, fun j hj => by
  have hj : j < 4 := hj
  rcases (show j = 0 ∨ j = 1 ∨ j = 2 ∨ j = 3 by omega) with rfl | rfl | rfl | rfl <;> rfl⟩
set_option maxRecDepth 100000 in
theorem law_x3 (B : zB) (q0 q11 q12 : Nat) (a2 a4 a6 a8 a10 a14 a16 a18 a20 aM : Nat → Nat) : zEq (.inl (zcy B 1, 6, .inl (fun _ => 0))) (law_g B q0 q11 q12 a2 a4 a6 a8 a10 a14 a16 a18 a20 aM 3) := Or.inl rfl
set_option maxRecDepth 100000 in
theorem law_x4 (B : zB) (q0 q11 q12 : Nat) (a2 a4 a6 a8 a10 a14 a16 a18 a20 aM : Nat → Nat) : zEq (.inl (zcy B 1, 6, .inl (fun _ => 0))) (law_g B q0 q11 q12 a2 a4 a6 a8 a10 a14 a16 a18 a20 aM 4) := Or.inl rfl
set_option maxRecDepth 100000 in
theorem law_x5 (B : zB) (q0 q11 q12 : Nat) (a2 a4 a6 a8 a10 a14 a16 a18 a20 aM : Nat → Nat) : zEq (.inl (zcy B 0, 60, .inl (fun _ => 0))) (law_g B q0 q11 q12 a2 a4 a6 a8 a10 a14 a16 a18 a20 aM 5) := Or.inl rfl
set_option maxRecDepth 100000 in
theorem law_x6 (B : zB) (q0 q11 q12 : Nat) (a2 a4 a6 a8 a10 a14 a16 a18 a20 aM : Nat → Nat) : zEq (.inl (zcy B 4, 2, .inr (.inr (.inr (.inr (va_up (va_up (fun _ => none) 0 (some (a2 16))) 1 (some (a2 19)))))))) (law_g B q0 q11 q12 a2 a4 a6 a8 a10 a14 a16 a18 a20 aM 6) := Or.inr ⟨_, _, _, _, rfl, rfl, fun j hj => by
  have hj : j < 2 := hj
  rcases (show j = 0 ∨ j = 1 by omega) with rfl | rfl <;> rfl⟩
set_option maxRecDepth 100000 in
theorem law_x7 (B : zB) (q0 q11 q12 : Nat) (a2 a4 a6 a8 a10 a14 a16 a18 a20 aM : Nat → Nat) : zEq (.inl (zcy B 1, 24, .inl (fun _ => 0))) (law_g B q0 q11 q12 a2 a4 a6 a8 a10 a14 a16 a18 a20 aM 7) := Or.inl rfl
set_option maxRecDepth 100000 in
theorem law_x8 (B : zB) (q0 q11 q12 : Nat) (a2 a4 a6 a8 a10 a14 a16 a18 a20 aM : Nat → Nat) : zEq (.inl (zcy B 2, 4, .inr (.inl (fun _ => 0)))) (law_g B q0 q11 q12 a2 a4 a6 a8 a10 a14 a16 a18 a20 aM 8) := Or.inl rfl
set_option maxRecDepth 100000 in
theorem law_x9 (B : zB) (q0 q11 q12 : Nat) (a2 a4 a6 a8 a10 a14 a16 a18 a20 aM : Nat → Nat) : zEq (.inr (0, [.ref (a2 9), .int 0, .int 0, .int 0, .int 0, .int 0])) (law_g B q0 q11 q12 a2 a4 a6 a8 a10 a14 a16 a18 a20 aM 9) := Or.inl rfl
set_option maxRecDepth 100000 in
theorem law_x10 (B : zB) (q0 q11 q12 : Nat) (a2 a4 a6 a8 a10 a14 a16 a18 a20 aM : Nat → Nat) : zEq (.inl (zcy B 1, 8, .inl (fun _ => 0))) (law_g B q0 q11 q12 a2 a4 a6 a8 a10 a14 a16 a18 a20 aM 10) := Or.inl rfl
set_option maxRecDepth 100000 in
theorem law_x11 (B : zB) (q0 q11 q12 : Nat) (a2 a4 a6 a8 a10 a14 a16 a18 a20 aM : Nat → Nat) : zEq (.inr (0, [.ref (a2 11), .int 0, .int 0, .int 0, .int 0, .int 0])) (law_g B q0 q11 q12 a2 a4 a6 a8 a10 a14 a16 a18 a20 aM 11) := Or.inl rfl
set_option maxRecDepth 100000 in
theorem law_x12 (B : zB) (q0 q11 q12 : Nat) (a2 a4 a6 a8 a10 a14 a16 a18 a20 aM : Nat → Nat) : zEq (.inl (zcy B 1, 8, .inl (fun _ => 0))) (law_g B q0 q11 q12 a2 a4 a6 a8 a10 a14 a16 a18 a20 aM 12) := Or.inl rfl
set_option maxRecDepth 100000 in
theorem law_x13 (B : zB) (q0 q11 q12 : Nat) (a2 a4 a6 a8 a10 a14 a16 a18 a20 aM : Nat → Nat) : zEq (.inr (0, [.ref (a2 13), .int 0, .int 0, .int 0, .int 0, .int 0])) (law_g B q0 q11 q12 a2 a4 a6 a8 a10 a14 a16 a18 a20 aM 13) := Or.inl rfl
set_option maxRecDepth 100000 in
theorem law_x14 (B : zB) (q0 q11 q12 : Nat) (a2 a4 a6 a8 a10 a14 a16 a18 a20 aM : Nat → Nat) : zEq (.inl (zcy B 1, 8, .inl (fun _ => 0))) (law_g B q0 q11 q12 a2 a4 a6 a8 a10 a14 a16 a18 a20 aM 14) := Or.inl rfl
set_option maxRecDepth 100000 in
theorem law_x15 (B : zB) (q0 q11 q12 : Nat) (a2 a4 a6 a8 a10 a14 a16 a18 a20 aM : Nat → Nat) : zEq (.inr (0, [.ref (a2 15), .int 0, .int 0, .int 0, .int 0, .int 0])) (law_g B q0 q11 q12 a2 a4 a6 a8 a10 a14 a16 a18 a20 aM 15) := Or.inl rfl
set_option maxRecDepth 100000 in
theorem law_x16 (B : zB) (q0 q11 q12 : Nat) (a2 a4 a6 a8 a10 a14 a16 a18 a20 aM : Nat → Nat) : zEq (.inl (zcy B 1, 8, .inl (fun _ => 0))) (law_g B q0 q11 q12 a2 a4 a6 a8 a10 a14 a16 a18 a20 aM 16) := Or.inl rfl
set_option maxRecDepth 100000 in
theorem law_x17 (B : zB) (q0 q11 q12 : Nat) (a2 a4 a6 a8 a10 a14 a16 a18 a20 aM : Nat → Nat) : zEq (.inr (1, [.int 0, .ref (a2 17), .ref (a2 18), .int 0])) (law_g B q0 q11 q12 a2 a4 a6 a8 a10 a14 a16 a18 a20 aM 17) := Or.inl rfl
set_option maxRecDepth 100000 in
theorem law_x18 (B : zB) (q0 q11 q12 : Nat) (a2 a4 a6 a8 a10 a14 a16 a18 a20 aM : Nat → Nat) : zEq (.inl (zcy B 1, 60, .inl (fun _ => 0))) (law_g B q0 q11 q12 a2 a4 a6 a8 a10 a14 a16 a18 a20 aM 18) := Or.inl rfl
set_option maxRecDepth 100000 in
theorem law_x19 (B : zB) (q0 q11 q12 : Nat) (a2 a4 a6 a8 a10 a14 a16 a18 a20 aM : Nat → Nat) : zEq (.inl (zcy B 1, 60, .inl (fun _ => 0))) (law_g B q0 q11 q12 a2 a4 a6 a8 a10 a14 a16 a18 a20 aM 19) := Or.inl rfl
set_option maxRecDepth 100000 in
theorem law_x20 (B : zB) (q0 q11 q12 : Nat) (a2 a4 a6 a8 a10 a14 a16 a18 a20 aM : Nat → Nat) : zEq (.inr (1, [.int 1, .ref (a2 20), .ref (a2 21), .int 0])) (law_g B q0 q11 q12 a2 a4 a6 a8 a10 a14 a16 a18 a20 aM 20) := Or.inl rfl
set_option maxRecDepth 100000 in
theorem law_x21 (B : zB) (q0 q11 q12 : Nat) (a2 a4 a6 a8 a10 a14 a16 a18 a20 aM : Nat → Nat) : zEq (.inl (zcy B 1, 60, .inl (fun _ => 0))) (law_g B q0 q11 q12 a2 a4 a6 a8 a10 a14 a16 a18 a20 aM 21) := Or.inl rfl
set_option maxRecDepth 100000 in
theorem law_x22 (B : zB) (q0 q11 q12 : Nat) (a2 a4 a6 a8 a10 a14 a16 a18 a20 aM : Nat → Nat) : zEq (.inl (zcy B 1, 60, .inl (fun _ => 0))) (law_g B q0 q11 q12 a2 a4 a6 a8 a10 a14 a16 a18 a20 aM 22) := Or.inl rfl
set_option maxRecDepth 100000 in
theorem law_x23 (B : zB) (q0 q11 q12 : Nat) (a2 a4 a6 a8 a10 a14 a16 a18 a20 aM : Nat → Nat) : zEq (.inr (2, [.ref (a4 1), .int 0, .ref (a4 2), .ref (a4 3), .int 0, .long 0, .long 0, .int 0, .int 1, .ref (a4 4), .int 0, .ref (a4 5), .ref (a4 6), .int 0, .ref (a4 7)])) (law_g B q0 q11 q12 a2 a4 a6 a8 a10 a14 a16 a18 a20 aM 23) := Or.inl rfl
set_option maxRecDepth 100000 in
theorem law_x24 (B : zB) (q0 q11 q12 : Nat) (a2 a4 a6 a8 a10 a14 a16 a18 a20 aM : Nat → Nat) : zEq (.inl (zcy B 3, 4, .inr (.inr (.inr (.inr (va_up (va_up (va_up (va_up (fun _ => none) 0 (some (a4 8))) 1 (some (a4 10))) 2 (some (a4 12))) 3 (some (a4 14)))))))) (law_g B q0 q11 q12 a2 a4 a6 a8 a10 a14 a16 a18 a20 aM 24) := Or.inr ⟨_, _, _, _, rfl, rfl, fun j hj => by
  have hj : j < 4 := hj
  rcases (show j = 0 ∨ j = 1 ∨ j = 2 ∨ j = 3 by omega) with rfl | rfl | rfl | rfl <;> rfl⟩
set_option maxRecDepth 100000 in
theorem law_x25 (B : zB) (q0 q11 q12 : Nat) (a2 a4 a6 a8 a10 a14 a16 a18 a20 aM : Nat → Nat) : zEq (.inl (zcy B 1, 6, .inl (fun _ => 0))) (law_g B q0 q11 q12 a2 a4 a6 a8 a10 a14 a16 a18 a20 aM 25) := Or.inl rfl
set_option maxRecDepth 100000 in
theorem law_x26 (B : zB) (q0 q11 q12 : Nat) (a2 a4 a6 a8 a10 a14 a16 a18 a20 aM : Nat → Nat) : zEq (.inl (zcy B 1, 6, .inl (fun _ => 0))) (law_g B q0 q11 q12 a2 a4 a6 a8 a10 a14 a16 a18 a20 aM 26) := Or.inl rfl
set_option maxRecDepth 100000 in
theorem law_x27 (B : zB) (q0 q11 q12 : Nat) (a2 a4 a6 a8 a10 a14 a16 a18 a20 aM : Nat → Nat) : zEq (.inl (zcy B 0, 60, .inl (fun _ => 0))) (law_g B q0 q11 q12 a2 a4 a6 a8 a10 a14 a16 a18 a20 aM 27) := Or.inl rfl
set_option maxRecDepth 100000 in
theorem law_x28 (B : zB) (q0 q11 q12 : Nat) (a2 a4 a6 a8 a10 a14 a16 a18 a20 aM : Nat → Nat) : zEq (.inl (zcy B 4, 2, .inr (.inr (.inr (.inr (va_up (va_up (fun _ => none) 0 (some (a4 16))) 1 (some (a4 19)))))))) (law_g B q0 q11 q12 a2 a4 a6 a8 a10 a14 a16 a18 a20 aM 28) := Or.inr ⟨_, _, _, _, rfl, rfl, fun j hj => by
  have hj : j < 2 := hj
  rcases (show j = 0 ∨ j = 1 by omega) with rfl | rfl <;> rfl⟩
set_option maxRecDepth 100000 in
theorem law_x29 (B : zB) (q0 q11 q12 : Nat) (a2 a4 a6 a8 a10 a14 a16 a18 a20 aM : Nat → Nat) : zEq (.inl (zcy B 1, 24, .inl (fun _ => 0))) (law_g B q0 q11 q12 a2 a4 a6 a8 a10 a14 a16 a18 a20 aM 29) := Or.inl rfl
set_option maxRecDepth 100000 in
theorem law_x30 (B : zB) (q0 q11 q12 : Nat) (a2 a4 a6 a8 a10 a14 a16 a18 a20 aM : Nat → Nat) : zEq (.inl (zcy B 2, 4, .inr (.inl (fun _ => 0)))) (law_g B q0 q11 q12 a2 a4 a6 a8 a10 a14 a16 a18 a20 aM 30) := Or.inl rfl
set_option maxRecDepth 100000 in
theorem law_x31 (B : zB) (q0 q11 q12 : Nat) (a2 a4 a6 a8 a10 a14 a16 a18 a20 aM : Nat → Nat) : zEq (.inr (0, [.ref (a4 9), .int 0, .int 0, .int 0, .int 0, .int 0])) (law_g B q0 q11 q12 a2 a4 a6 a8 a10 a14 a16 a18 a20 aM 31) := Or.inl rfl
set_option maxRecDepth 100000 in
theorem law_x32 (B : zB) (q0 q11 q12 : Nat) (a2 a4 a6 a8 a10 a14 a16 a18 a20 aM : Nat → Nat) : zEq (.inl (zcy B 1, 8, .inl (fun _ => 0))) (law_g B q0 q11 q12 a2 a4 a6 a8 a10 a14 a16 a18 a20 aM 32) := Or.inl rfl
set_option maxRecDepth 100000 in
theorem law_x33 (B : zB) (q0 q11 q12 : Nat) (a2 a4 a6 a8 a10 a14 a16 a18 a20 aM : Nat → Nat) : zEq (.inr (0, [.ref (a4 11), .int 0, .int 0, .int 0, .int 0, .int 0])) (law_g B q0 q11 q12 a2 a4 a6 a8 a10 a14 a16 a18 a20 aM 33) := Or.inl rfl
set_option maxRecDepth 100000 in
theorem law_x34 (B : zB) (q0 q11 q12 : Nat) (a2 a4 a6 a8 a10 a14 a16 a18 a20 aM : Nat → Nat) : zEq (.inl (zcy B 1, 8, .inl (fun _ => 0))) (law_g B q0 q11 q12 a2 a4 a6 a8 a10 a14 a16 a18 a20 aM 34) := Or.inl rfl
set_option maxRecDepth 100000 in
theorem law_x35 (B : zB) (q0 q11 q12 : Nat) (a2 a4 a6 a8 a10 a14 a16 a18 a20 aM : Nat → Nat) : zEq (.inr (0, [.ref (a4 13), .int 0, .int 0, .int 0, .int 0, .int 0])) (law_g B q0 q11 q12 a2 a4 a6 a8 a10 a14 a16 a18 a20 aM 35) := Or.inl rfl
set_option maxRecDepth 100000 in
theorem law_x36 (B : zB) (q0 q11 q12 : Nat) (a2 a4 a6 a8 a10 a14 a16 a18 a20 aM : Nat → Nat) : zEq (.inl (zcy B 1, 8, .inl (fun _ => 0))) (law_g B q0 q11 q12 a2 a4 a6 a8 a10 a14 a16 a18 a20 aM 36) := Or.inl rfl
set_option maxRecDepth 100000 in
theorem law_x37 (B : zB) (q0 q11 q12 : Nat) (a2 a4 a6 a8 a10 a14 a16 a18 a20 aM : Nat → Nat) : zEq (.inr (0, [.ref (a4 15), .int 0, .int 0, .int 0, .int 0, .int 0])) (law_g B q0 q11 q12 a2 a4 a6 a8 a10 a14 a16 a18 a20 aM 37) := Or.inl rfl
set_option maxRecDepth 100000 in
theorem law_x38 (B : zB) (q0 q11 q12 : Nat) (a2 a4 a6 a8 a10 a14 a16 a18 a20 aM : Nat → Nat) : zEq (.inl (zcy B 1, 8, .inl (fun _ => 0))) (law_g B q0 q11 q12 a2 a4 a6 a8 a10 a14 a16 a18 a20 aM 38) := Or.inl rfl
set_option maxRecDepth 100000 in
theorem law_x39 (B : zB) (q0 q11 q12 : Nat) (a2 a4 a6 a8 a10 a14 a16 a18 a20 aM : Nat → Nat) : zEq (.inr (1, [.int 0, .ref (a4 17), .ref (a4 18), .int 0])) (law_g B q0 q11 q12 a2 a4 a6 a8 a10 a14 a16 a18 a20 aM 39) := Or.inl rfl
set_option maxRecDepth 100000 in
theorem law_x40 (B : zB) (q0 q11 q12 : Nat) (a2 a4 a6 a8 a10 a14 a16 a18 a20 aM : Nat → Nat) : zEq (.inl (zcy B 1, 60, .inl (fun _ => 0))) (law_g B q0 q11 q12 a2 a4 a6 a8 a10 a14 a16 a18 a20 aM 40) := Or.inl rfl
set_option maxRecDepth 100000 in
theorem law_x41 (B : zB) (q0 q11 q12 : Nat) (a2 a4 a6 a8 a10 a14 a16 a18 a20 aM : Nat → Nat) : zEq (.inl (zcy B 1, 60, .inl (fun _ => 0))) (law_g B q0 q11 q12 a2 a4 a6 a8 a10 a14 a16 a18 a20 aM 41) := Or.inl rfl
set_option maxRecDepth 100000 in
theorem law_x42 (B : zB) (q0 q11 q12 : Nat) (a2 a4 a6 a8 a10 a14 a16 a18 a20 aM : Nat → Nat) : zEq (.inr (1, [.int 1, .ref (a4 20), .ref (a4 21), .int 0])) (law_g B q0 q11 q12 a2 a4 a6 a8 a10 a14 a16 a18 a20 aM 42) := Or.inl rfl
set_option maxRecDepth 100000 in
theorem law_x43 (B : zB) (q0 q11 q12 : Nat) (a2 a4 a6 a8 a10 a14 a16 a18 a20 aM : Nat → Nat) : zEq (.inl (zcy B 1, 60, .inl (fun _ => 0))) (law_g B q0 q11 q12 a2 a4 a6 a8 a10 a14 a16 a18 a20 aM 43) := Or.inl rfl
set_option maxRecDepth 100000 in
theorem law_x44 (B : zB) (q0 q11 q12 : Nat) (a2 a4 a6 a8 a10 a14 a16 a18 a20 aM : Nat → Nat) : zEq (.inl (zcy B 1, 60, .inl (fun _ => 0))) (law_g B q0 q11 q12 a2 a4 a6 a8 a10 a14 a16 a18 a20 aM 44) := Or.inl rfl
set_option maxRecDepth 100000 in
theorem law_x45 (B : zB) (q0 q11 q12 : Nat) (a2 a4 a6 a8 a10 a14 a16 a18 a20 aM : Nat → Nat) : zEq (.inr (2, [.ref (a6 1), .int 0, .ref (a6 2), .ref (a6 3), .int 0, .long 0, .long 0, .int 0, .int 1, .ref (a6 4), .int 0, .ref (a6 5), .ref (a6 6), .int 0, .ref (a6 7)])) (law_g B q0 q11 q12 a2 a4 a6 a8 a10 a14 a16 a18 a20 aM 45) := Or.inl rfl
set_option maxRecDepth 100000 in
theorem law_x46 (B : zB) (q0 q11 q12 : Nat) (a2 a4 a6 a8 a10 a14 a16 a18 a20 aM : Nat → Nat) : zEq (.inl (zcy B 3, 4, .inr (.inr (.inr (.inr (va_up (va_up (va_up (va_up (fun _ => none) 0 (some (a6 8))) 1 (some (a6 10))) 2 (some (a6 12))) 3 (some (a6 14)))))))) (law_g B q0 q11 q12 a2 a4 a6 a8 a10 a14 a16 a18 a20 aM 46) := Or.inr ⟨_, _, _, _, rfl, rfl, fun j hj => by
  have hj : j < 4 := hj
  rcases (show j = 0 ∨ j = 1 ∨ j = 2 ∨ j = 3 by omega) with rfl | rfl | rfl | rfl <;> rfl⟩
set_option maxRecDepth 100000 in
theorem law_x47 (B : zB) (q0 q11 q12 : Nat) (a2 a4 a6 a8 a10 a14 a16 a18 a20 aM : Nat → Nat) : zEq (.inl (zcy B 1, 6, .inl (fun _ => 0))) (law_g B q0 q11 q12 a2 a4 a6 a8 a10 a14 a16 a18 a20 aM 47) := Or.inl rfl
set_option maxRecDepth 100000 in
theorem law_x48 (B : zB) (q0 q11 q12 : Nat) (a2 a4 a6 a8 a10 a14 a16 a18 a20 aM : Nat → Nat) : zEq (.inl (zcy B 1, 6, .inl (fun _ => 0))) (law_g B q0 q11 q12 a2 a4 a6 a8 a10 a14 a16 a18 a20 aM 48) := Or.inl rfl
set_option maxRecDepth 100000 in
theorem law_x49 (B : zB) (q0 q11 q12 : Nat) (a2 a4 a6 a8 a10 a14 a16 a18 a20 aM : Nat → Nat) : zEq (.inl (zcy B 0, 60, .inl (fun _ => 0))) (law_g B q0 q11 q12 a2 a4 a6 a8 a10 a14 a16 a18 a20 aM 49) := Or.inl rfl
set_option maxRecDepth 100000 in
theorem law_x50 (B : zB) (q0 q11 q12 : Nat) (a2 a4 a6 a8 a10 a14 a16 a18 a20 aM : Nat → Nat) : zEq (.inl (zcy B 4, 2, .inr (.inr (.inr (.inr (va_up (va_up (fun _ => none) 0 (some (a6 16))) 1 (some (a6 19)))))))) (law_g B q0 q11 q12 a2 a4 a6 a8 a10 a14 a16 a18 a20 aM 50) := Or.inr ⟨_, _, _, _, rfl, rfl, fun j hj => by
  have hj : j < 2 := hj
  rcases (show j = 0 ∨ j = 1 by omega) with rfl | rfl <;> rfl⟩
set_option maxRecDepth 100000 in
theorem law_x51 (B : zB) (q0 q11 q12 : Nat) (a2 a4 a6 a8 a10 a14 a16 a18 a20 aM : Nat → Nat) : zEq (.inl (zcy B 1, 24, .inl (fun _ => 0))) (law_g B q0 q11 q12 a2 a4 a6 a8 a10 a14 a16 a18 a20 aM 51) := Or.inl rfl
set_option maxRecDepth 100000 in
theorem law_x52 (B : zB) (q0 q11 q12 : Nat) (a2 a4 a6 a8 a10 a14 a16 a18 a20 aM : Nat → Nat) : zEq (.inl (zcy B 2, 4, .inr (.inl (fun _ => 0)))) (law_g B q0 q11 q12 a2 a4 a6 a8 a10 a14 a16 a18 a20 aM 52) := Or.inl rfl
set_option maxRecDepth 100000 in
theorem law_x53 (B : zB) (q0 q11 q12 : Nat) (a2 a4 a6 a8 a10 a14 a16 a18 a20 aM : Nat → Nat) : zEq (.inr (0, [.ref (a6 9), .int 0, .int 0, .int 0, .int 0, .int 0])) (law_g B q0 q11 q12 a2 a4 a6 a8 a10 a14 a16 a18 a20 aM 53) := Or.inl rfl
set_option maxRecDepth 100000 in
theorem law_x54 (B : zB) (q0 q11 q12 : Nat) (a2 a4 a6 a8 a10 a14 a16 a18 a20 aM : Nat → Nat) : zEq (.inl (zcy B 1, 8, .inl (fun _ => 0))) (law_g B q0 q11 q12 a2 a4 a6 a8 a10 a14 a16 a18 a20 aM 54) := Or.inl rfl
set_option maxRecDepth 100000 in
theorem law_x55 (B : zB) (q0 q11 q12 : Nat) (a2 a4 a6 a8 a10 a14 a16 a18 a20 aM : Nat → Nat) : zEq (.inr (0, [.ref (a6 11), .int 0, .int 0, .int 0, .int 0, .int 0])) (law_g B q0 q11 q12 a2 a4 a6 a8 a10 a14 a16 a18 a20 aM 55) := Or.inl rfl
set_option maxRecDepth 100000 in
theorem law_x56 (B : zB) (q0 q11 q12 : Nat) (a2 a4 a6 a8 a10 a14 a16 a18 a20 aM : Nat → Nat) : zEq (.inl (zcy B 1, 8, .inl (fun _ => 0))) (law_g B q0 q11 q12 a2 a4 a6 a8 a10 a14 a16 a18 a20 aM 56) := Or.inl rfl
set_option maxRecDepth 100000 in
theorem law_x57 (B : zB) (q0 q11 q12 : Nat) (a2 a4 a6 a8 a10 a14 a16 a18 a20 aM : Nat → Nat) : zEq (.inr (0, [.ref (a6 13), .int 0, .int 0, .int 0, .int 0, .int 0])) (law_g B q0 q11 q12 a2 a4 a6 a8 a10 a14 a16 a18 a20 aM 57) := Or.inl rfl
set_option maxRecDepth 100000 in
theorem law_x58 (B : zB) (q0 q11 q12 : Nat) (a2 a4 a6 a8 a10 a14 a16 a18 a20 aM : Nat → Nat) : zEq (.inl (zcy B 1, 8, .inl (fun _ => 0))) (law_g B q0 q11 q12 a2 a4 a6 a8 a10 a14 a16 a18 a20 aM 58) := Or.inl rfl
set_option maxRecDepth 100000 in
theorem law_x59 (B : zB) (q0 q11 q12 : Nat) (a2 a4 a6 a8 a10 a14 a16 a18 a20 aM : Nat → Nat) : zEq (.inr (0, [.ref (a6 15), .int 0, .int 0, .int 0, .int 0, .int 0])) (law_g B q0 q11 q12 a2 a4 a6 a8 a10 a14 a16 a18 a20 aM 59) := Or.inl rfl
set_option maxRecDepth 100000 in
theorem law_x60 (B : zB) (q0 q11 q12 : Nat) (a2 a4 a6 a8 a10 a14 a16 a18 a20 aM : Nat → Nat) : zEq (.inl (zcy B 1, 8, .inl (fun _ => 0))) (law_g B q0 q11 q12 a2 a4 a6 a8 a10 a14 a16 a18 a20 aM 60) := Or.inl rfl
set_option maxRecDepth 100000 in
theorem law_x61 (B : zB) (q0 q11 q12 : Nat) (a2 a4 a6 a8 a10 a14 a16 a18 a20 aM : Nat → Nat) : zEq (.inr (1, [.int 0, .ref (a6 17), .ref (a6 18), .int 0])) (law_g B q0 q11 q12 a2 a4 a6 a8 a10 a14 a16 a18 a20 aM 61) := Or.inl rfl
set_option maxRecDepth 100000 in
theorem law_x62 (B : zB) (q0 q11 q12 : Nat) (a2 a4 a6 a8 a10 a14 a16 a18 a20 aM : Nat → Nat) : zEq (.inl (zcy B 1, 60, .inl (fun _ => 0))) (law_g B q0 q11 q12 a2 a4 a6 a8 a10 a14 a16 a18 a20 aM 62) := Or.inl rfl
set_option maxRecDepth 100000 in
theorem law_x63 (B : zB) (q0 q11 q12 : Nat) (a2 a4 a6 a8 a10 a14 a16 a18 a20 aM : Nat → Nat) : zEq (.inl (zcy B 1, 60, .inl (fun _ => 0))) (law_g B q0 q11 q12 a2 a4 a6 a8 a10 a14 a16 a18 a20 aM 63) := Or.inl rfl
set_option maxRecDepth 100000 in
theorem law_x64 (B : zB) (q0 q11 q12 : Nat) (a2 a4 a6 a8 a10 a14 a16 a18 a20 aM : Nat → Nat) : zEq (.inr (1, [.int 1, .ref (a6 20), .ref (a6 21), .int 0])) (law_g B q0 q11 q12 a2 a4 a6 a8 a10 a14 a16 a18 a20 aM 64) := Or.inl rfl
set_option maxRecDepth 100000 in
theorem law_x65 (B : zB) (q0 q11 q12 : Nat) (a2 a4 a6 a8 a10 a14 a16 a18 a20 aM : Nat → Nat) : zEq (.inl (zcy B 1, 60, .inl (fun _ => 0))) (law_g B q0 q11 q12 a2 a4 a6 a8 a10 a14 a16 a18 a20 aM 65) := Or.inl rfl
set_option maxRecDepth 100000 in
theorem law_x66 (B : zB) (q0 q11 q12 : Nat) (a2 a4 a6 a8 a10 a14 a16 a18 a20 aM : Nat → Nat) : zEq (.inl (zcy B 1, 60, .inl (fun _ => 0))) (law_g B q0 q11 q12 a2 a4 a6 a8 a10 a14 a16 a18 a20 aM 66) := Or.inl rfl
set_option maxRecDepth 100000 in
theorem law_x67 (B : zB) (q0 q11 q12 : Nat) (a2 a4 a6 a8 a10 a14 a16 a18 a20 aM : Nat → Nat) : zEq (.inr (4, [.ref (a8 1), .int 0, .ref (a8 2), .int 0, .int 0, .ref (zsq B 0)])) (law_g B q0 q11 q12 a2 a4 a6 a8 a10 a14 a16 a18 a20 aM 67) := Or.inl rfl
set_option maxRecDepth 100000 in
theorem law_x68 (B : zB) (q0 q11 q12 : Nat) (a2 a4 a6 a8 a10 a14 a16 a18 a20 aM : Nat → Nat) : zEq (.inl (zcy B 1, 60, .inl (fun _ => 0))) (law_g B q0 q11 q12 a2 a4 a6 a8 a10 a14 a16 a18 a20 aM 68) := Or.inl rfl
set_option maxRecDepth 100000 in
theorem law_x69 (B : zB) (q0 q11 q12 : Nat) (a2 a4 a6 a8 a10 a14 a16 a18 a20 aM : Nat → Nat) : zEq (.inl (zcy B 0, 0, .inl (fun _ => 0))) (law_g B q0 q11 q12 a2 a4 a6 a8 a10 a14 a16 a18 a20 aM 69) := Or.inl rfl
set_option maxRecDepth 100000 in
theorem law_x70 (B : zB) (q0 q11 q12 : Nat) (a2 a4 a6 a8 a10 a14 a16 a18 a20 aM : Nat → Nat) : zEq (.inr (5, [.ref (a10 1), .int 0, .int 0, .int 0, .int 0, .int 0])) (law_g B q0 q11 q12 a2 a4 a6 a8 a10 a14 a16 a18 a20 aM 70) := Or.inl rfl
set_option maxRecDepth 100000 in
theorem law_x71 (B : zB) (q0 q11 q12 : Nat) (a2 a4 a6 a8 a10 a14 a16 a18 a20 aM : Nat → Nat) : zEq (.inl (zcy B 1, 30, .inl (fun _ => 0))) (law_g B q0 q11 q12 a2 a4 a6 a8 a10 a14 a16 a18 a20 aM 71) := Or.inl rfl
set_option maxRecDepth 100000 in
theorem law_x72 (B : zB) (q0 q11 q12 : Nat) (a2 a4 a6 a8 a10 a14 a16 a18 a20 aM : Nat → Nat) : zEq (.inl (zcy B 5, 4, .inr (.inr (.inr (.inr (va_up (va_up (va_up (va_up (fun _ => none) 0 (some (a14 0))) 1 (some (a16 0))) 2 (some (a18 0))) 3 (some (a20 0)))))))) (law_g B q0 q11 q12 a2 a4 a6 a8 a10 a14 a16 a18 a20 aM 72) := Or.inr ⟨_, _, _, _, rfl, rfl, fun j hj => by
  have hj : j < 4 := hj
  rcases (show j = 0 ∨ j = 1 ∨ j = 2 ∨ j = 3 by omega) with rfl | rfl | rfl | rfl <;> rfl⟩
set_option maxRecDepth 100000 in
theorem law_x73 (B : zB) (q0 q11 q12 : Nat) (a2 a4 a6 a8 a10 a14 a16 a18 a20 aM : Nat → Nat) : zEq (.inl (zcy B 1, 7, .inl (fun _ => 0))) (law_g B q0 q11 q12 a2 a4 a6 a8 a10 a14 a16 a18 a20 aM 73) := Or.inl rfl
set_option maxRecDepth 100000 in
theorem law_x74 (B : zB) (q0 q11 q12 : Nat) (a2 a4 a6 a8 a10 a14 a16 a18 a20 aM : Nat → Nat) : zEq (.inr (3, [.ref (a14 1), .int 0, .int 0])) (law_g B q0 q11 q12 a2 a4 a6 a8 a10 a14 a16 a18 a20 aM 74) := Or.inl rfl
set_option maxRecDepth 100000 in
theorem law_x75 (B : zB) (q0 q11 q12 : Nat) (a2 a4 a6 a8 a10 a14 a16 a18 a20 aM : Nat → Nat) : zEq (.inl (zcy B 1, 24, .inl (fun _ => 0))) (law_g B q0 q11 q12 a2 a4 a6 a8 a10 a14 a16 a18 a20 aM 75) := Or.inl rfl
set_option maxRecDepth 100000 in
theorem law_x76 (B : zB) (q0 q11 q12 : Nat) (a2 a4 a6 a8 a10 a14 a16 a18 a20 aM : Nat → Nat) : zEq (.inr (3, [.ref (a16 1), .int 0, .int 0])) (law_g B q0 q11 q12 a2 a4 a6 a8 a10 a14 a16 a18 a20 aM 76) := Or.inl rfl
set_option maxRecDepth 100000 in
theorem law_x77 (B : zB) (q0 q11 q12 : Nat) (a2 a4 a6 a8 a10 a14 a16 a18 a20 aM : Nat → Nat) : zEq (.inl (zcy B 1, 24, .inl (fun _ => 0))) (law_g B q0 q11 q12 a2 a4 a6 a8 a10 a14 a16 a18 a20 aM 77) := Or.inl rfl
set_option maxRecDepth 100000 in
theorem law_x78 (B : zB) (q0 q11 q12 : Nat) (a2 a4 a6 a8 a10 a14 a16 a18 a20 aM : Nat → Nat) : zEq (.inr (3, [.ref (a18 1), .int 0, .int 0])) (law_g B q0 q11 q12 a2 a4 a6 a8 a10 a14 a16 a18 a20 aM 78) := Or.inl rfl
set_option maxRecDepth 100000 in
theorem law_x79 (B : zB) (q0 q11 q12 : Nat) (a2 a4 a6 a8 a10 a14 a16 a18 a20 aM : Nat → Nat) : zEq (.inl (zcy B 1, 24, .inl (fun _ => 0))) (law_g B q0 q11 q12 a2 a4 a6 a8 a10 a14 a16 a18 a20 aM 79) := Or.inl rfl
set_option maxRecDepth 100000 in
theorem law_x80 (B : zB) (q0 q11 q12 : Nat) (a2 a4 a6 a8 a10 a14 a16 a18 a20 aM : Nat → Nat) : zEq (.inr (3, [.ref (a20 1), .int 0, .int 0])) (law_g B q0 q11 q12 a2 a4 a6 a8 a10 a14 a16 a18 a20 aM 80) := Or.inl rfl
set_option maxRecDepth 100000 in
theorem law_x81 (B : zB) (q0 q11 q12 : Nat) (a2 a4 a6 a8 a10 a14 a16 a18 a20 aM : Nat → Nat) : zEq (.inl (zcy B 1, 24, .inl (fun _ => 0))) (law_g B q0 q11 q12 a2 a4 a6 a8 a10 a14 a16 a18 a20 aM 81) := Or.inl rfl
set_option maxRecDepth 100000 in
theorem law_x82 (B : zB) (q0 q11 q12 : Nat) (a2 a4 a6 a8 a10 a14 a16 a18 a20 aM : Nat → Nat) : zEq (.inr (7, [.ref (aM 1), .ref (aM 2), .ref (aM 3), .int 0, .ref (aM 4), .ref (aM 5), .ref (aM 6), .ref (aM 7), .ref (aM 8), .ref (aM 9), .ref (aM 10), .ref (aM 11), .int 0, .int 0, .int 0, .int 0, .int 0, .ref (aM 12), .int 0, .int 0])) (law_g B q0 q11 q12 a2 a4 a6 a8 a10 a14 a16 a18 a20 aM 82) := Or.inl rfl
set_option maxRecDepth 100000 in
theorem law_x83 (B : zB) (q0 q11 q12 : Nat) (a2 a4 a6 a8 a10 a14 a16 a18 a20 aM : Nat → Nat) : zEq (.inl (zcy B 1, 524, .inl (upd (fun _ => 0) 1 1))) (law_g B q0 q11 q12 a2 a4 a6 a8 a10 a14 a16 a18 a20 aM 83) := Or.inl rfl
set_option maxRecDepth 100000 in
theorem law_x84 (B : zB) (q0 q11 q12 : Nat) (a2 a4 a6 a8 a10 a14 a16 a18 a20 aM : Nat → Nat) : zEq (.inl (zcy B 1, 524, .inl (fun _ => 0))) (law_g B q0 q11 q12 a2 a4 a6 a8 a10 a14 a16 a18 a20 aM 84) := Or.inl rfl
set_option maxRecDepth 100000 in
theorem law_x85 (B : zB) (q0 q11 q12 : Nat) (a2 a4 a6 a8 a10 a14 a16 a18 a20 aM : Nat → Nat) : zEq (.inl (zcy B 1, 524, .inl (fun _ => 0))) (law_g B q0 q11 q12 a2 a4 a6 a8 a10 a14 a16 a18 a20 aM 85) := Or.inl rfl
set_option maxRecDepth 100000 in
theorem law_x86 (B : zB) (q0 q11 q12 : Nat) (a2 a4 a6 a8 a10 a14 a16 a18 a20 aM : Nat → Nat) : zEq (.inl (zcy B 1, 7, .inl (fun _ => 0))) (law_g B q0 q11 q12 a2 a4 a6 a8 a10 a14 a16 a18 a20 aM 86) := Or.inl rfl
set_option maxRecDepth 100000 in
theorem law_x87 (B : zB) (q0 q11 q12 : Nat) (a2 a4 a6 a8 a10 a14 a16 a18 a20 aM : Nat → Nat) : zEq (.inl (zcy B 1, 4, .inl (fun _ => 0))) (law_g B q0 q11 q12 a2 a4 a6 a8 a10 a14 a16 a18 a20 aM 87) := Or.inl rfl
set_option maxRecDepth 100000 in
theorem law_x88 (B : zB) (q0 q11 q12 : Nat) (a2 a4 a6 a8 a10 a14 a16 a18 a20 aM : Nat → Nat) : zEq (.inl (zcy B 1, 4, .inl (fun _ => 0))) (law_g B q0 q11 q12 a2 a4 a6 a8 a10 a14 a16 a18 a20 aM 88) := Or.inl rfl
set_option maxRecDepth 100000 in
theorem law_x89 (B : zB) (q0 q11 q12 : Nat) (a2 a4 a6 a8 a10 a14 a16 a18 a20 aM : Nat → Nat) : zEq (.inl (zcy B 1, 96, .inl (fun _ => 0))) (law_g B q0 q11 q12 a2 a4 a6 a8 a10 a14 a16 a18 a20 aM 89) := Or.inl rfl
set_option maxRecDepth 100000 in
theorem law_x90 (B : zB) (q0 q11 q12 : Nat) (a2 a4 a6 a8 a10 a14 a16 a18 a20 aM : Nat → Nat) : zEq (.inl (zcy B 1, 60, .inl (fun _ => 0))) (law_g B q0 q11 q12 a2 a4 a6 a8 a10 a14 a16 a18 a20 aM 90) := Or.inl rfl
set_option maxRecDepth 100000 in
theorem law_x91 (B : zB) (q0 q11 q12 : Nat) (a2 a4 a6 a8 a10 a14 a16 a18 a20 aM : Nat → Nat) : zEq (.inl (zcy B 1, 60, .inl (fun _ => 0))) (law_g B q0 q11 q12 a2 a4 a6 a8 a10 a14 a16 a18 a20 aM 91) := Or.inl rfl
set_option maxRecDepth 100000 in
theorem law_x92 (B : zB) (q0 q11 q12 : Nat) (a2 a4 a6 a8 a10 a14 a16 a18 a20 aM : Nat → Nat) : zEq (.inl (zcy B 1, 3, .inl (fun _ => 0))) (law_g B q0 q11 q12 a2 a4 a6 a8 a10 a14 a16 a18 a20 aM 92) := Or.inl rfl
set_option maxRecDepth 100000 in
theorem law_x93 (B : zB) (q0 q11 q12 : Nat) (a2 a4 a6 a8 a10 a14 a16 a18 a20 aM : Nat → Nat) : zEq (.inl (zcy B 1, 60, .inl (fun _ => 0))) (law_g B q0 q11 q12 a2 a4 a6 a8 a10 a14 a16 a18 a20 aM 93) := Or.inl rfl
set_option maxRecDepth 100000 in
theorem law_x94 (B : zB) (q0 q11 q12 : Nat) (a2 a4 a6 a8 a10 a14 a16 a18 a20 aM : Nat → Nat) : zEq (.inl (zcy B 1, 30, .inl (fun _ => 0))) (law_g B q0 q11 q12 a2 a4 a6 a8 a10 a14 a16 a18 a20 aM 94) := Or.inl rfl
set_option maxRecDepth 100000 in
theorem law_s0 (B : zB) (q0 q11 q12 : Nat) (a2 a4 a6 a8 a10 a14 a16 a18 a20 aM : Nat → Nat) : zSame ([(q0, .inr (6, [.ref (a2 0), .ref (a4 0), .ref (a6 0), .ref (a8 0), .ref (a10 0), .ref q11, .ref q12, .int 0]))]) (zseg (law_ad q0 q11 q12 a2 a4 a6 a8 a10 a14 a16 a18 a20 aM) (law_g B q0 q11 q12 a2 a4 a6 a8 a10 a14 a16 a18 a20 aM) 0 1) := ⟨⟨rfl, law_x0 B q0 q11 q12 a2 a4 a6 a8 a10 a14 a16 a18 a20 aM⟩, trivial⟩
set_option maxRecDepth 100000 in
theorem law_s1 (B : zB) (q0 q11 q12 : Nat) (a2 a4 a6 a8 a10 a14 a16 a18 a20 aM : Nat → Nat) : zSame (ctR B a2) (zseg (law_ad q0 q11 q12 a2 a4 a6 a8 a10 a14 a16 a18 a20 aM) (law_g B q0 q11 q12 a2 a4 a6 a8 a10 a14 a16 a18 a20 aM) 1 22) := ⟨⟨rfl, law_x1 B q0 q11 q12 a2 a4 a6 a8 a10 a14 a16 a18 a20 aM⟩, ⟨⟨rfl, law_x2 B q0 q11 q12 a2 a4 a6 a8 a10 a14 a16 a18 a20 aM⟩, ⟨⟨rfl, law_x3 B q0 q11 q12 a2 a4 a6 a8 a10 a14 a16 a18 a20 aM⟩, ⟨⟨rfl, law_x4 B q0 q11 q12 a2 a4 a6 a8 a10 a14 a16 a18 a20 aM⟩, ⟨⟨rfl, law_x5 B q0 q11 q12 a2 a4 a6 a8 a10 a14 a16 a18 a20 aM⟩, ⟨⟨rfl, law_x6 B q0 q11 q12 a2 a4 a6 a8 a10 a14 a16 a18 a20 aM⟩, ⟨⟨rfl, law_x7 B q0 q11 q12 a2 a4 a6 a8 a10 a14 a16 a18 a20 aM⟩, ⟨⟨rfl, law_x8 B q0 q11 q12 a2 a4 a6 a8 a10 a14 a16 a18 a20 aM⟩, ⟨⟨rfl, law_x9 B q0 q11 q12 a2 a4 a6 a8 a10 a14 a16 a18 a20 aM⟩, ⟨⟨rfl, law_x10 B q0 q11 q12 a2 a4 a6 a8 a10 a14 a16 a18 a20 aM⟩, ⟨⟨rfl, law_x11 B q0 q11 q12 a2 a4 a6 a8 a10 a14 a16 a18 a20 aM⟩, ⟨⟨rfl, law_x12 B q0 q11 q12 a2 a4 a6 a8 a10 a14 a16 a18 a20 aM⟩, ⟨⟨rfl, law_x13 B q0 q11 q12 a2 a4 a6 a8 a10 a14 a16 a18 a20 aM⟩, ⟨⟨rfl, law_x14 B q0 q11 q12 a2 a4 a6 a8 a10 a14 a16 a18 a20 aM⟩, ⟨⟨rfl, law_x15 B q0 q11 q12 a2 a4 a6 a8 a10 a14 a16 a18 a20 aM⟩, ⟨⟨rfl, law_x16 B q0 q11 q12 a2 a4 a6 a8 a10 a14 a16 a18 a20 aM⟩, ⟨⟨rfl, law_x17 B q0 q11 q12 a2 a4 a6 a8 a10 a14 a16 a18 a20 aM⟩, ⟨⟨rfl, law_x18 B q0 q11 q12 a2 a4 a6 a8 a10 a14 a16 a18 a20 aM⟩, ⟨⟨rfl, law_x19 B q0 q11 q12 a2 a4 a6 a8 a10 a14 a16 a18 a20 aM⟩, ⟨⟨rfl, law_x20 B q0 q11 q12 a2 a4 a6 a8 a10 a14 a16 a18 a20 aM⟩, ⟨⟨rfl, law_x21 B q0 q11 q12 a2 a4 a6 a8 a10 a14 a16 a18 a20 aM⟩, ⟨⟨rfl, law_x22 B q0 q11 q12 a2 a4 a6 a8 a10 a14 a16 a18 a20 aM⟩, trivial⟩⟩⟩⟩⟩⟩⟩⟩⟩⟩⟩⟩⟩⟩⟩⟩⟩⟩⟩⟩⟩⟩
set_option maxRecDepth 100000 in
theorem law_s2 (B : zB) (q0 q11 q12 : Nat) (a2 a4 a6 a8 a10 a14 a16 a18 a20 aM : Nat → Nat) : zSame (ctR B a4) (zseg (law_ad q0 q11 q12 a2 a4 a6 a8 a10 a14 a16 a18 a20 aM) (law_g B q0 q11 q12 a2 a4 a6 a8 a10 a14 a16 a18 a20 aM) 23 22) := ⟨⟨rfl, law_x23 B q0 q11 q12 a2 a4 a6 a8 a10 a14 a16 a18 a20 aM⟩, ⟨⟨rfl, law_x24 B q0 q11 q12 a2 a4 a6 a8 a10 a14 a16 a18 a20 aM⟩, ⟨⟨rfl, law_x25 B q0 q11 q12 a2 a4 a6 a8 a10 a14 a16 a18 a20 aM⟩, ⟨⟨rfl, law_x26 B q0 q11 q12 a2 a4 a6 a8 a10 a14 a16 a18 a20 aM⟩, ⟨⟨rfl, law_x27 B q0 q11 q12 a2 a4 a6 a8 a10 a14 a16 a18 a20 aM⟩, ⟨⟨rfl, law_x28 B q0 q11 q12 a2 a4 a6 a8 a10 a14 a16 a18 a20 aM⟩, ⟨⟨rfl, law_x29 B q0 q11 q12 a2 a4 a6 a8 a10 a14 a16 a18 a20 aM⟩, ⟨⟨rfl, law_x30 B q0 q11 q12 a2 a4 a6 a8 a10 a14 a16 a18 a20 aM⟩, ⟨⟨rfl, law_x31 B q0 q11 q12 a2 a4 a6 a8 a10 a14 a16 a18 a20 aM⟩, ⟨⟨rfl, law_x32 B q0 q11 q12 a2 a4 a6 a8 a10 a14 a16 a18 a20 aM⟩, ⟨⟨rfl, law_x33 B q0 q11 q12 a2 a4 a6 a8 a10 a14 a16 a18 a20 aM⟩, ⟨⟨rfl, law_x34 B q0 q11 q12 a2 a4 a6 a8 a10 a14 a16 a18 a20 aM⟩, ⟨⟨rfl, law_x35 B q0 q11 q12 a2 a4 a6 a8 a10 a14 a16 a18 a20 aM⟩, ⟨⟨rfl, law_x36 B q0 q11 q12 a2 a4 a6 a8 a10 a14 a16 a18 a20 aM⟩, ⟨⟨rfl, law_x37 B q0 q11 q12 a2 a4 a6 a8 a10 a14 a16 a18 a20 aM⟩, ⟨⟨rfl, law_x38 B q0 q11 q12 a2 a4 a6 a8 a10 a14 a16 a18 a20 aM⟩, ⟨⟨rfl, law_x39 B q0 q11 q12 a2 a4 a6 a8 a10 a14 a16 a18 a20 aM⟩, ⟨⟨rfl, law_x40 B q0 q11 q12 a2 a4 a6 a8 a10 a14 a16 a18 a20 aM⟩, ⟨⟨rfl, law_x41 B q0 q11 q12 a2 a4 a6 a8 a10 a14 a16 a18 a20 aM⟩, ⟨⟨rfl, law_x42 B q0 q11 q12 a2 a4 a6 a8 a10 a14 a16 a18 a20 aM⟩, ⟨⟨rfl, law_x43 B q0 q11 q12 a2 a4 a6 a8 a10 a14 a16 a18 a20 aM⟩, ⟨⟨rfl, law_x44 B q0 q11 q12 a2 a4 a6 a8 a10 a14 a16 a18 a20 aM⟩, trivial⟩⟩⟩⟩⟩⟩⟩⟩⟩⟩⟩⟩⟩⟩⟩⟩⟩⟩⟩⟩⟩⟩
set_option maxRecDepth 100000 in
theorem law_s3 (B : zB) (q0 q11 q12 : Nat) (a2 a4 a6 a8 a10 a14 a16 a18 a20 aM : Nat → Nat) : zSame (ctR B a6) (zseg (law_ad q0 q11 q12 a2 a4 a6 a8 a10 a14 a16 a18 a20 aM) (law_g B q0 q11 q12 a2 a4 a6 a8 a10 a14 a16 a18 a20 aM) 45 22) := ⟨⟨rfl, law_x45 B q0 q11 q12 a2 a4 a6 a8 a10 a14 a16 a18 a20 aM⟩, ⟨⟨rfl, law_x46 B q0 q11 q12 a2 a4 a6 a8 a10 a14 a16 a18 a20 aM⟩, ⟨⟨rfl, law_x47 B q0 q11 q12 a2 a4 a6 a8 a10 a14 a16 a18 a20 aM⟩, ⟨⟨rfl, law_x48 B q0 q11 q12 a2 a4 a6 a8 a10 a14 a16 a18 a20 aM⟩, ⟨⟨rfl, law_x49 B q0 q11 q12 a2 a4 a6 a8 a10 a14 a16 a18 a20 aM⟩, ⟨⟨rfl, law_x50 B q0 q11 q12 a2 a4 a6 a8 a10 a14 a16 a18 a20 aM⟩, ⟨⟨rfl, law_x51 B q0 q11 q12 a2 a4 a6 a8 a10 a14 a16 a18 a20 aM⟩, ⟨⟨rfl, law_x52 B q0 q11 q12 a2 a4 a6 a8 a10 a14 a16 a18 a20 aM⟩, ⟨⟨rfl, law_x53 B q0 q11 q12 a2 a4 a6 a8 a10 a14 a16 a18 a20 aM⟩, ⟨⟨rfl, law_x54 B q0 q11 q12 a2 a4 a6 a8 a10 a14 a16 a18 a20 aM⟩, ⟨⟨rfl, law_x55 B q0 q11 q12 a2 a4 a6 a8 a10 a14 a16 a18 a20 aM⟩, ⟨⟨rfl, law_x56 B q0 q11 q12 a2 a4 a6 a8 a10 a14 a16 a18 a20 aM⟩, ⟨⟨rfl, law_x57 B q0 q11 q12 a2 a4 a6 a8 a10 a14 a16 a18 a20 aM⟩, ⟨⟨rfl, law_x58 B q0 q11 q12 a2 a4 a6 a8 a10 a14 a16 a18 a20 aM⟩, ⟨⟨rfl, law_x59 B q0 q11 q12 a2 a4 a6 a8 a10 a14 a16 a18 a20 aM⟩, ⟨⟨rfl, law_x60 B q0 q11 q12 a2 a4 a6 a8 a10 a14 a16 a18 a20 aM⟩, ⟨⟨rfl, law_x61 B q0 q11 q12 a2 a4 a6 a8 a10 a14 a16 a18 a20 aM⟩, ⟨⟨rfl, law_x62 B q0 q11 q12 a2 a4 a6 a8 a10 a14 a16 a18 a20 aM⟩, ⟨⟨rfl, law_x63 B q0 q11 q12 a2 a4 a6 a8 a10 a14 a16 a18 a20 aM⟩, ⟨⟨rfl, law_x64 B q0 q11 q12 a2 a4 a6 a8 a10 a14 a16 a18 a20 aM⟩, ⟨⟨rfl, law_x65 B q0 q11 q12 a2 a4 a6 a8 a10 a14 a16 a18 a20 aM⟩, ⟨⟨rfl, law_x66 B q0 q11 q12 a2 a4 a6 a8 a10 a14 a16 a18 a20 aM⟩, trivial⟩⟩⟩⟩⟩⟩⟩⟩⟩⟩⟩⟩⟩⟩⟩⟩⟩⟩⟩⟩⟩⟩
set_option maxRecDepth 100000 in
theorem law_s4 (B : zB) (q0 q11 q12 : Nat) (a2 a4 a6 a8 a10 a14 a16 a18 a20 aM : Nat → Nat) : zSame (ctT B a8) (zseg (law_ad q0 q11 q12 a2 a4 a6 a8 a10 a14 a16 a18 a20 aM) (law_g B q0 q11 q12 a2 a4 a6 a8 a10 a14 a16 a18 a20 aM) 67 3) := ⟨⟨rfl, law_x67 B q0 q11 q12 a2 a4 a6 a8 a10 a14 a16 a18 a20 aM⟩, ⟨⟨rfl, law_x68 B q0 q11 q12 a2 a4 a6 a8 a10 a14 a16 a18 a20 aM⟩, ⟨⟨rfl, law_x69 B q0 q11 q12 a2 a4 a6 a8 a10 a14 a16 a18 a20 aM⟩, trivial⟩⟩⟩
set_option maxRecDepth 100000 in
theorem law_s5 (B : zB) (q0 q11 q12 : Nat) (a2 a4 a6 a8 a10 a14 a16 a18 a20 aM : Nat → Nat) : zSame (ctV B a10) (zseg (law_ad q0 q11 q12 a2 a4 a6 a8 a10 a14 a16 a18 a20 aM) (law_g B q0 q11 q12 a2 a4 a6 a8 a10 a14 a16 a18 a20 aM) 70 2) := ⟨⟨rfl, law_x70 B q0 q11 q12 a2 a4 a6 a8 a10 a14 a16 a18 a20 aM⟩, ⟨⟨rfl, law_x71 B q0 q11 q12 a2 a4 a6 a8 a10 a14 a16 a18 a20 aM⟩, trivial⟩⟩
set_option maxRecDepth 100000 in
theorem law_s6 (B : zB) (q0 q11 q12 : Nat) (a2 a4 a6 a8 a10 a14 a16 a18 a20 aM : Nat → Nat) : zSame ([(q11, .inl (zcy B 5, 4, .inr (.inr (.inr (.inr (va_up (va_up (va_up (va_up (fun _ => none) 0 (some (a14 0))) 1 (some (a16 0))) 2 (some (a18 0))) 3 (some (a20 0)))))))), (q12, .inl (zcy B 1, 7, .inl (fun _ => 0)))]) (zseg (law_ad q0 q11 q12 a2 a4 a6 a8 a10 a14 a16 a18 a20 aM) (law_g B q0 q11 q12 a2 a4 a6 a8 a10 a14 a16 a18 a20 aM) 72 2) := ⟨⟨rfl, law_x72 B q0 q11 q12 a2 a4 a6 a8 a10 a14 a16 a18 a20 aM⟩, ⟨⟨rfl, law_x73 B q0 q11 q12 a2 a4 a6 a8 a10 a14 a16 a18 a20 aM⟩, trivial⟩⟩
set_option maxRecDepth 100000 in
theorem law_s7 (B : zB) (q0 q11 q12 : Nat) (a2 a4 a6 a8 a10 a14 a16 a18 a20 aM : Nat → Nat) : zSame (ctS B a14) (zseg (law_ad q0 q11 q12 a2 a4 a6 a8 a10 a14 a16 a18 a20 aM) (law_g B q0 q11 q12 a2 a4 a6 a8 a10 a14 a16 a18 a20 aM) 74 2) := ⟨⟨rfl, law_x74 B q0 q11 q12 a2 a4 a6 a8 a10 a14 a16 a18 a20 aM⟩, ⟨⟨rfl, law_x75 B q0 q11 q12 a2 a4 a6 a8 a10 a14 a16 a18 a20 aM⟩, trivial⟩⟩
set_option maxRecDepth 100000 in
theorem law_s8 (B : zB) (q0 q11 q12 : Nat) (a2 a4 a6 a8 a10 a14 a16 a18 a20 aM : Nat → Nat) : zSame (ctS B a16) (zseg (law_ad q0 q11 q12 a2 a4 a6 a8 a10 a14 a16 a18 a20 aM) (law_g B q0 q11 q12 a2 a4 a6 a8 a10 a14 a16 a18 a20 aM) 76 2) := ⟨⟨rfl, law_x76 B q0 q11 q12 a2 a4 a6 a8 a10 a14 a16 a18 a20 aM⟩, ⟨⟨rfl, law_x77 B q0 q11 q12 a2 a4 a6 a8 a10 a14 a16 a18 a20 aM⟩, trivial⟩⟩
set_option maxRecDepth 100000 in
theorem law_s9 (B : zB) (q0 q11 q12 : Nat) (a2 a4 a6 a8 a10 a14 a16 a18 a20 aM : Nat → Nat) : zSame (ctS B a18) (zseg (law_ad q0 q11 q12 a2 a4 a6 a8 a10 a14 a16 a18 a20 aM) (law_g B q0 q11 q12 a2 a4 a6 a8 a10 a14 a16 a18 a20 aM) 78 2) := ⟨⟨rfl, law_x78 B q0 q11 q12 a2 a4 a6 a8 a10 a14 a16 a18 a20 aM⟩, ⟨⟨rfl, law_x79 B q0 q11 q12 a2 a4 a6 a8 a10 a14 a16 a18 a20 aM⟩, trivial⟩⟩
set_option maxRecDepth 100000 in
theorem law_s10 (B : zB) (q0 q11 q12 : Nat) (a2 a4 a6 a8 a10 a14 a16 a18 a20 aM : Nat → Nat) : zSame (ctS B a20) (zseg (law_ad q0 q11 q12 a2 a4 a6 a8 a10 a14 a16 a18 a20 aM) (law_g B q0 q11 q12 a2 a4 a6 a8 a10 a14 a16 a18 a20 aM) 80 2) := ⟨⟨rfl, law_x80 B q0 q11 q12 a2 a4 a6 a8 a10 a14 a16 a18 a20 aM⟩, ⟨⟨rfl, law_x81 B q0 q11 q12 a2 a4 a6 a8 a10 a14 a16 a18 a20 aM⟩, trivial⟩⟩
set_option maxRecDepth 100000 in
theorem law_s11 (B : zB) (q0 q11 q12 : Nat) (a2 a4 a6 a8 a10 a14 a16 a18 a20 aM : Nat → Nat) : zSame (ctM B aM) (zseg (law_ad q0 q11 q12 a2 a4 a6 a8 a10 a14 a16 a18 a20 aM) (law_g B q0 q11 q12 a2 a4 a6 a8 a10 a14 a16 a18 a20 aM) 82 13) := ⟨⟨rfl, law_x82 B q0 q11 q12 a2 a4 a6 a8 a10 a14 a16 a18 a20 aM⟩, ⟨⟨rfl, law_x83 B q0 q11 q12 a2 a4 a6 a8 a10 a14 a16 a18 a20 aM⟩, ⟨⟨rfl, law_x84 B q0 q11 q12 a2 a4 a6 a8 a10 a14 a16 a18 a20 aM⟩, ⟨⟨rfl, law_x85 B q0 q11 q12 a2 a4 a6 a8 a10 a14 a16 a18 a20 aM⟩, ⟨⟨rfl, law_x86 B q0 q11 q12 a2 a4 a6 a8 a10 a14 a16 a18 a20 aM⟩, ⟨⟨rfl, law_x87 B q0 q11 q12 a2 a4 a6 a8 a10 a14 a16 a18 a20 aM⟩, ⟨⟨rfl, law_x88 B q0 q11 q12 a2 a4 a6 a8 a10 a14 a16 a18 a20 aM⟩, ⟨⟨rfl, law_x89 B q0 q11 q12 a2 a4 a6 a8 a10 a14 a16 a18 a20 aM⟩, ⟨⟨rfl, law_x90 B q0 q11 q12 a2 a4 a6 a8 a10 a14 a16 a18 a20 aM⟩, ⟨⟨rfl, law_x91 B q0 q11 q12 a2 a4 a6 a8 a10 a14 a16 a18 a20 aM⟩, ⟨⟨rfl, law_x92 B q0 q11 q12 a2 a4 a6 a8 a10 a14 a16 a18 a20 aM⟩, ⟨⟨rfl, law_x93 B q0 q11 q12 a2 a4 a6 a8 a10 a14 a16 a18 a20 aM⟩, ⟨⟨rfl, law_x94 B q0 q11 q12 a2 a4 a6 a8 a10 a14 a16 a18 a20 aM⟩, trivial⟩⟩⟩⟩⟩⟩⟩⟩⟩⟩⟩⟩⟩
set_option maxRecDepth 100000 in
theorem law_same (B : zB) (q0 q11 q12 : Nat) (a2 a4 a6 a8 a10 a14 a16 a18 a20 aM : Nat → Nat) : zSame (ctW B q0 q11 q12 a2 a4 a6 a8 a10 a14 a16 a18 a20 ++ ctM B aM) (zseg (law_ad q0 q11 q12 a2 a4 a6 a8 a10 a14 a16 a18 a20 aM) (law_g B q0 q11 q12 a2 a4 a6 a8 a10 a14 a16 a18 a20 aM) 0 95) := (zSame.seg (k := 0) (m := 82) (n := 13) (zSame.seg (k := 0) (m := 72) (n := 10) (zSame.seg (k := 0) (m := 70) (n := 2) (zSame.seg (k := 0) (m := 67) (n := 3) (zSame.seg (k := 0) (m := 45) (n := 22) (zSame.seg (k := 0) (m := 23) (n := 22) (zSame.seg (k := 0) (m := 1) (n := 22) (law_s0 B q0 q11 q12 a2 a4 a6 a8 a10 a14 a16 a18 a20 aM) (law_s1 B q0 q11 q12 a2 a4 a6 a8 a10 a14 a16 a18 a20 aM)) (law_s2 B q0 q11 q12 a2 a4 a6 a8 a10 a14 a16 a18 a20 aM)) (law_s3 B q0 q11 q12 a2 a4 a6 a8 a10 a14 a16 a18 a20 aM)) (law_s4 B q0 q11 q12 a2 a4 a6 a8 a10 a14 a16 a18 a20 aM)) (law_s5 B q0 q11 q12 a2 a4 a6 a8 a10 a14 a16 a18 a20 aM)) (zSame.seg (k := 72) (m := 8) (n := 2) (zSame.seg (k := 72) (m := 6) (n := 2) (zSame.seg (k := 72) (m := 4) (n := 2) (zSame.seg (k := 72) (m := 2) (n := 2) (law_s6 B q0 q11 q12 a2 a4 a6 a8 a10 a14 a16 a18 a20 aM) (law_s7 B q0 q11 q12 a2 a4 a6 a8 a10 a14 a16 a18 a20 aM)) (law_s8 B q0 q11 q12 a2 a4 a6 a8 a10 a14 a16 a18 a20 aM)) (law_s9 B q0 q11 q12 a2 a4 a6 a8 a10 a14 a16 a18 a20 aM)) (law_s10 B q0 q11 q12 a2 a4 a6 a8 a10 a14 a16 a18 a20 aM))) (law_s11 B q0 q11 q12 a2 a4 a6 a8 a10 a14 a16 a18 a20 aM))
