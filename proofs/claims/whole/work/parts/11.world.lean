/-! the world of both systems: M: whole numbers by place and field (or index); N: longs -/
abbrev zM : Type := Nat → Nat → Int32
abbrev zN : Type := Nat → Nat → Int64
def zshL : List Nat := [6, 2, 13, 10, 10, 11, 14, 10, 12, 0, 10, 0, 10, 0, 10, 0, 10, 1, 10, 10, 1, 10, 10, 2, 13, 10, 10, 11, 14, 10, 12, 0, 10, 0, 10, 0, 10, 0, 10, 1, 10, 10, 1, 10, 10, 2, 13, 10, 10, 11, 14, 10, 12, 0, 10, 0, 10, 0, 10, 0, 10, 1, 10, 10, 1, 10, 10, 4, 10, 11, 5, 10, 15, 10, 3, 10, 3, 10, 3, 10, 3, 10, 7, 10, 10, 10, 10, 10, 10, 10, 10, 10, 10, 10, 10]
def zlnL : List Nat := [0, 0, 4, 6, 6, 60, 2, 24, 4, 0, 8, 0, 8, 0, 8, 0, 8, 0, 60, 60, 0, 60, 60, 0, 4, 6, 6, 60, 2, 24, 4, 0, 8, 0, 8, 0, 8, 0, 8, 0, 60, 60, 0, 60, 60, 0, 4, 6, 6, 60, 2, 24, 4, 0, 8, 0, 8, 0, 8, 0, 8, 0, 60, 60, 0, 60, 60, 0, 60, 0, 0, 30, 4, 7, 0, 24, 0, 24, 0, 24, 0, 24, 0, 524, 524, 524, 7, 4, 4, 96, 60, 60, 3, 60, 30]
/-- what stands at a place: an object of a class (0 .. 7), ints (10), bytes (11), longs (12), Fences, Laws, Sheets (13, 14, 15) -/
def zsh (i : Nat) : Nat := zshL.getD i 99
def zln (i : Nat) : Nat := zlnL.getD i 0
def zu (M : zM) (i k : Nat) (v : Int32) : zM := va_up M i (upd (M i) k v)
def zul (N : zN) (i k : Nat) (v : Int64) : zN := va_up N i (vp_updL (N i) k v)
def zfs (B : zB) (M : zM) (N : zN) (c i : Nat) : List Value := match c with
  | 0 => [zref B (i + 1), .int (M i 1), .int (M i 2), .int (M i 3), .int (M i 4), .int (M i 5)]
  | 1 => [.int (M i 0), zref B (i + 1), zref B (i + 2), .int (M i 3)]
  | 2 => [zref B (i + 1), .int (M i 1), zref B (i + 2), zref B (i + 3), .int (M i 4), .long (N i 5), .long (N i 6), .int (M i 7), .int (M i 8), zref B (i + 4), .int (M i 10), zref B (i + 5), zref B (i + 6), .int (M i 13), zref B (i + 7)]
  | 3 => [zref B (i + 1), .int (M i 1), .int (M i 2)]
  | 4 => [zref B 68, .int (M i 1), zref B (if M i 2 = 0 then 69 else 5), .int (M i 3), .int (M i 4), .ref (zsq B (M i 5).toNatClampNeg)]
  | 5 => [zref B (i + 1), .int (M i 1), .int (M i 2), .int (M i 3), .int (M i 4), .int (M i 5)]
  | 6 => [zref B 1, zref B 23, zref B 45, zref B 67, zref B 70, zref B 72, zref B 73, .int (M i 7)]
  | _ => [zref B 83, zref B 84, zref B 85, .int (M i 3), zref B 86, zref B 87, zref B 88, zref B 89, zref B 90, zref B 91, zref B 92, zref B 93, .int (M i 12), .int (M i 13), .int (M i 14), .int (M i 15), .int (M i 16), zref B 94, .int (M i 18), .int (M i 19)]
def zint : Nat → List Nat
  | 0 => [1, 2, 3, 4, 5]
  | 1 => [3]
  | 2 => [1, 4, 7, 8, 10, 13]
  | 3 => [1, 2]
  | 4 => [1, 3, 4]
  | 5 => [1, 2, 3, 4, 5]
  | 6 => [7]
  | _ => [3, 12, 13, 14, 15, 16, 18, 19]
def zg (B : zB) (M : zM) (N : zN) (i : Nat) : va_E :=
  if zsh i < 8 then .inr (zsh i, zfs B M N (zsh i) i)
  else if zsh i = 10 then .inl (zcy B 1, zln i, .inl (M i))
  else if zsh i = 11 then .inl (zcy B 0, zln i, .inl (M i))
  else if zsh i = 12 then .inl (zcy B 2, zln i, .inr (.inl (N i)))
  else if zsh i = 13 then .inl (zcy B 3, zln i, .inr (.inr (.inr (.inr fun j => some (zad B (i + 7 + 2 * j))))))
  else if zsh i = 14 then .inl (zcy B 4, zln i, .inr (.inr (.inr (.inr fun j => some (zad B (i + 11 + 3 * j))))))
  else .inl (zcy B 5, zln i, .inr (.inr (.inr (.inr fun j => some (zad B (i + 2 + 2 * j))))))
theorem zsh_lt {i c : Nat} (h : zsh i = c) (hc : c < 90) : i < 95 := by
  rcases Nat.lt_or_ge i 95 with h1 | h1
  · exact h1
  · have : zsh i = 99 := by
      unfold zsh
      rw [List.getD_eq_getElem?_getD, List.getElem?_eq_none (by show zshL.length ≤ i; exact h1)]
      rfl
    omega
theorem zg_o {B : zB} {M : zM} {N : zN} {i c : Nat} (hs : zsh i = c) (hc : c < 8) : zg B M N i = .inr (c, zfs B M N c i) := by
  unfold zg; rw [hs, if_pos hc]
theorem zg_i {B : zB} {M : zM} {N : zN} {i : Nat} (hs : zsh i = 10) : zg B M N i = .inl (zcy B 1, zln i, .inl (M i)) := by
  unfold zg; rw [hs]; rfl
theorem zg_b {B : zB} {M : zM} {N : zN} {i : Nat} (hs : zsh i = 11) : zg B M N i = .inl (zcy B 0, zln i, .inl (M i)) := by
  unfold zg; rw [hs]; rfl
theorem zg_j {B : zB} {M : zM} {N : zN} {i : Nat} (hs : zsh i = 12) : zg B M N i = .inl (zcy B 2, zln i, .inr (.inl (N i))) := by
  unfold zg; rw [hs]; rfl
theorem zg_F {B : zB} {M : zM} {N : zN} {i : Nat} (hs : zsh i = 13) : zg B M N i = .inl (zcy B 3, zln i, .inr (.inr (.inr (.inr fun j => some (zad B (i + 7 + 2 * j)))))) := by
  unfold zg; rw [hs]; rfl
theorem zg_L {B : zB} {M : zM} {N : zN} {i : Nat} (hs : zsh i = 14) : zg B M N i = .inl (zcy B 4, zln i, .inr (.inr (.inr (.inr fun j => some (zad B (i + 11 + 3 * j)))))) := by
  unfold zg; rw [hs]; rfl
theorem zg_S {B : zB} {M : zM} {N : zN} {i : Nat} (hs : zsh i = 15) : zg B M N i = .inl (zcy B 5, zln i, .inr (.inr (.inr (.inr fun j => some (zad B (i + 2 + 2 * j)))))) := by
  unfold zg; rw [hs]; rfl
theorem zfs_ne {B : zB} {M M' : zM} {N N' : zN} {c i : Nat} (h : M i = M' i) (h' : N i = N' i) : zfs B M N c i = zfs B M' N' c i := by
  unfold zfs; rw [h, h']
theorem zg_ne {B : zB} {M M' : zM} {N N' : zN} {i : Nat} (h : M i = M' i) (h' : N i = N' i) : zg B M N i = zg B M' N' i := by
  unfold zg; rw [zfs_ne h h', h, h']
theorem zfs_set {B : zB} {M : zM} {N : zN} {c i k : Nat} {v : Int32} (hk : k ∈ zint c) : (zfs B M N c i).set k (.int v) = zfs B (zu M i k v) N c i := by
  match c, hk with
  | 0, hk =>
    simp only [zint, List.mem_cons, List.not_mem_nil, or_false] at hk
    rcases hk with rfl | rfl | rfl | rfl | rfl <;> simp [zfs, zu, va_up, upd]
  | 1, hk =>
    simp only [zint, List.mem_cons, List.not_mem_nil, or_false] at hk
    rcases hk with rfl <;> simp [zfs, zu, va_up, upd]
  | 2, hk =>
    simp only [zint, List.mem_cons, List.not_mem_nil, or_false] at hk
    rcases hk with rfl | rfl | rfl | rfl | rfl | rfl <;> simp [zfs, zu, va_up, upd]
  | 3, hk =>
    simp only [zint, List.mem_cons, List.not_mem_nil, or_false] at hk
    rcases hk with rfl | rfl <;> simp [zfs, zu, va_up, upd]
  | 4, hk =>
    simp only [zint, List.mem_cons, List.not_mem_nil, or_false] at hk
    rcases hk with rfl | rfl | rfl <;> simp [zfs, zu, va_up, upd]
  | 5, hk =>
    simp only [zint, List.mem_cons, List.not_mem_nil, or_false] at hk
    rcases hk with rfl | rfl | rfl | rfl | rfl <;> simp [zfs, zu, va_up, upd]
  | 6, hk =>
    simp only [zint, List.mem_cons, List.not_mem_nil, or_false] at hk
    rcases hk with rfl <;> simp [zfs, zu, va_up, upd]
  | c + 7, hk =>
    simp only [zint, List.mem_cons, List.not_mem_nil, or_false] at hk
    rcases hk with rfl | rfl | rfl | rfl | rfl | rfl | rfl | rfl <;> simp [zfs, zu, va_up, upd]
theorem zg_put {B : zB} {M : zM} {N : zN} {i c k : Nat} {v : Int32} (hs : zsh i = c) (hc : c < 8) (hk : k ∈ zint c) : va_up (zg B M N) i (.inr (c, (zfs B M N c i).set k (.int v))) = zg B (zu M i k v) N := by
  funext j
  by_cases hj : j = i
  · subst hj
    rw [va_up_self, zg_o hs hc, zfs_set hk]
  · rw [va_up_ne _ _ hj]
    exact zg_ne (by show M j = va_up M i _ j; rw [va_up_ne _ _ hj]) rfl
theorem zg_putl {B : zB} {M : zM} {N : zN} {i k : Nat} {v : Int64} (hs : zsh i = 2) (hk : k = 5 ∨ k = 6) : va_up (zg B M N) i (.inr (2, (zfs B M N 2 i).set k (.long v))) = zg B M (zul N i k v) := by
  funext j
  by_cases hj : j = i
  · subst hj
    rw [va_up_self, zg_o hs (by decide)]
    rcases hk with rfl | rfl <;> simp [zfs, zul, va_up, vp_updL]
  · rw [va_up_ne _ _ hj]
    exact zg_ne rfl (by show N j = va_up N i _ j; rw [va_up_ne _ _ hj])
theorem zg_ist {B : zB} {M : zM} {N : zN} {i : Nat} {f : Nat → Int32} (hs : zsh i = 10) : va_up (zg B M N) i (.inl (zcy B 1, zln i, .inl f)) = zg B (va_up M i f) N := by
  funext j
  by_cases hj : j = i
  · subst hj
    rw [va_up_self, zg_i hs, va_up_self]
  · rw [va_up_ne _ _ hj]
    exact zg_ne (by rw [va_up_ne _ _ hj]) rfl
theorem zg_bst {B : zB} {M : zM} {N : zN} {i : Nat} {f : Nat → Int32} (hs : zsh i = 11) : va_up (zg B M N) i (.inl (zcy B 0, zln i, .inl f)) = zg B (va_up M i f) N := by
  funext j
  by_cases hj : j = i
  · subst hj
    rw [va_up_self, zg_b hs, va_up_self]
  · rw [va_up_ne _ _ hj]
    exact zg_ne (by rw [va_up_ne _ _ hj]) rfl
theorem zg_jst {B : zB} {M : zM} {N : zN} {i : Nat} {f : Nat → Int64} (hs : zsh i = 12) : va_up (zg B M N) i (.inl (zcy B 2, zln i, .inr (.inl f))) = zg B M (va_up N i f) := by
  funext j
  by_cases hj : j = i
  · subst hj
    rw [va_up_self, zg_j hs, va_up_self]
  · rw [va_up_ne _ _ hj]
    exact zg_ne rfl (by rw [va_up_ne _ _ hj])
theorem zo_get {X : zX} {B : zB} {M : zM} {N : zN} {own : String} {cc : ByteArray} {nL d pc : Nat} {lv : List (Nat × Value)} {st : List Value} {ix c k i : Nat} {v : Value} (o : zOk X B own cc nL d) (hB : znn B = 95) (hd : decode cc pc = .ok (.getfield ix, 3)) (hF : zFld own ix c k) (hs : zsh i = c) (hc : c < 8) (hv : (zfs B M N c i)[k]? = some v) (kk : zW X B (zg B M N) (pc + 3) lv (v :: st)) : zW X B (zg B M N) pc lv (zref B i :: st) :=
  z_getf o hd hF (by rw [hB]; exact zsh_lt hs (by omega)) (zg_o hs hc) hv kk
theorem zo_put {X : zX} {B : zB} {M : zM} {N : zN} {own : String} {cc : ByteArray} {nL d pc : Nat} {lv : List (Nat × Value)} {st : List Value} {ix c k i : Nat} {v : Int32} (o : zOk X B own cc nL d) (hB : znn B = 95) (hd : decode cc pc = .ok (.putfield ix, 3)) (hF : zFldP own ix c k .int) (hs : zsh i = c) (hc : c < 8) (hk : k ∈ zint c) (hlen : k < (zfs B M N c i).length) (kk : zW X B (zg B (zu M i k v) N) (pc + 3) lv st) : zW X B (zg B M N) pc lv (.int v :: zref B i :: st) :=
  z_putf o hd hF (by rw [hB]; exact zsh_lt hs (by omega)) (zg_o hs hc) rfl rfl hlen (by rw [zg_put hs hc hk]; exact kk)
theorem zo_putz {X : zX} {B : zB} {M : zM} {N : zN} {own : String} {cc : ByteArray} {nL d pc : Nat} {lv : List (Nat × Value)} {st : List Value} {ix c k i : Nat} {v : Int32} (o : zOk X B own cc nL d) (hB : znn B = 95) (hd : decode cc pc = .ok (.putfield ix, 3)) (hF : zFldP own ix c k .boolean) (hs : zsh i = c) (hc : c < 8) (hk : k ∈ zint c) (hlen : k < (zfs B M N c i).length) (hz : v = 0 ∨ v = 1) (kk : zW X B (zg B (zu M i k v) N) (pc + 3) lv st) : zW X B (zg B M N) pc lv (.int v :: zref B i :: st) :=
  z_putf o hd hF (by rw [hB]; exact zsh_lt hs (by omega)) (zg_o hs hc) (by rcases hz with rfl | rfl <;> rfl) (by rcases hz with rfl | rfl <;> rfl) hlen (by rw [zg_put hs hc hk]; exact kk)
theorem zo_putl {X : zX} {B : zB} {M : zM} {N : zN} {own : String} {cc : ByteArray} {nL d pc : Nat} {lv : List (Nat × Value)} {st : List Value} {ix k i : Nat} {v : Int64} (o : zOk X B own cc nL d) (hB : znn B = 95) (hd : decode cc pc = .ok (.putfield ix, 3)) (hF : zFldP own ix 2 k .long) (hs : zsh i = 2) (hk : k = 5 ∨ k = 6) (kk : zW X B (zg B M (zul N i k v)) (pc + 3) lv st) : zW X B (zg B M N) pc lv (.long v :: zref B i :: st) :=
  z_putf o hd hF (by rw [hB]; exact zsh_lt hs (by omega)) (zg_o hs (by decide)) rfl rfl (by rcases hk with rfl | rfl <;> exact Nat.le_of_ble_eq_true rfl) (by rw [zg_putl hs hk]; exact kk)
theorem zo_iald {X : zX} {B : zB} {M : zM} {N : zN} {own : String} {cc : ByteArray} {nL d pc : Nat} {lv : List (Nat × Value)} {st : List Value} {i j : Nat} (o : zOk X B own cc nL d) (hB : znn B = 95) (hd : decode cc pc = .ok (.iaload, 1)) (hs : zsh i = 10) (hj : j < zln i) (hz : zln i < 2 ^ 31) (kk : zW X B (zg B M N) (pc + 1) lv (.int (M i j) :: st)) : zW X B (zg B M N) pc lv (.int (nI j) :: zref B i :: st) :=
  z_iald o hd (by rw [hB]; exact zsh_lt hs (by omega)) (zg_i hs) (vp_in_nI hj hz) (by rw [nI_clamp (Nat.lt_trans hj hz)]; exact kk)
theorem zo_bald {X : zX} {B : zB} {M : zM} {N : zN} {own : String} {cc : ByteArray} {nL d pc : Nat} {lv : List (Nat × Value)} {st : List Value} {i j : Nat} (o : zOk X B own cc nL d) (hB : znn B = 95) (hd : decode cc pc = .ok (.baload, 1)) (hs : zsh i = 11) (hj : j < zln i) (hz : zln i < 2 ^ 31) (kk : zW X B (zg B M N) (pc + 1) lv (.int (M i j) :: st)) : zW X B (zg B M N) pc lv (.int (nI j) :: zref B i :: st) :=
  z_bald o hd (by rw [hB]; exact zsh_lt hs (by omega)) (zg_b hs) (vp_in_nI hj hz) (by rw [nI_clamp (Nat.lt_trans hj hz)]; exact kk)
theorem zo_lald {X : zX} {B : zB} {M : zM} {N : zN} {own : String} {cc : ByteArray} {nL d pc : Nat} {lv : List (Nat × Value)} {st : List Value} {i j : Nat} (o : zOk X B own cc nL d) (hB : znn B = 95) (hd : decode cc pc = .ok (.laload, 1)) (hs : zsh i = 12) (hj : j < zln i) (hz : zln i < 2 ^ 31) (kk : zW X B (zg B M N) (pc + 1) lv (.long (N i j) :: st)) : zW X B (zg B M N) pc lv (.int (nI j) :: zref B i :: st) :=
  z_lald o hd (by rw [hB]; exact zsh_lt hs (by omega)) (zg_j hs) (vp_in_nI hj hz) (by rw [nI_clamp (Nat.lt_trans hj hz)]; exact kk)
theorem zo_iast {X : zX} {B : zB} {M : zM} {N : zN} {own : String} {cc : ByteArray} {nL d pc : Nat} {lv : List (Nat × Value)} {st : List Value} {i j : Nat} {x : Int32} (o : zOk X B own cc nL d) (hB : znn B = 95) (hd : decode cc pc = .ok (.iastore, 1)) (hs : zsh i = 10) (hj : j < zln i) (hz : zln i < 2 ^ 31) (kk : zW X B (zg B (zu M i j x) N) (pc + 1) lv st) : zW X B (zg B M N) pc lv (.int x :: .int (nI j) :: zref B i :: st) :=
  z_iast o hd (by rw [hB]; exact zsh_lt hs (by omega)) (zg_i hs) (vp_in_nI hj hz) (by rw [nI_clamp (Nat.lt_trans hj hz), zg_ist hs]; exact kk)
theorem zo_bast {X : zX} {B : zB} {M : zM} {N : zN} {own : String} {cc : ByteArray} {nL d pc : Nat} {lv : List (Nat × Value)} {st : List Value} {i j : Nat} {x : Int32} (o : zOk X B own cc nL d) (hB : znn B = 95) (hd : decode cc pc = .ok (.bastore, 1)) (hs : zsh i = 11) (hj : j < zln i) (hz : zln i < 2 ^ 31) (kk : zW X B (zg B (zu M i j (vp_nar .byte x)) N) (pc + 1) lv st) : zW X B (zg B M N) pc lv (.int x :: .int (nI j) :: zref B i :: st) :=
  z_bast o hd (by rw [hB]; exact zsh_lt hs (by omega)) (zg_b hs) (vp_in_nI hj hz) (by rw [nI_clamp (Nat.lt_trans hj hz), zg_bst hs]; exact kk)
theorem zo_last {X : zX} {B : zB} {M : zM} {N : zN} {own : String} {cc : ByteArray} {nL d pc : Nat} {lv : List (Nat × Value)} {st : List Value} {i j : Nat} {x : Int64} (o : zOk X B own cc nL d) (hB : znn B = 95) (hd : decode cc pc = .ok (.lastore, 1)) (hs : zsh i = 12) (hj : j < zln i) (hz : zln i < 2 ^ 31) (kk : zW X B (zg B M (zul N i j x)) (pc + 1) lv st) : zW X B (zg B M N) pc lv (.long x :: .int (nI j) :: zref B i :: st) :=
  z_last o hd (by rw [hB]; exact zsh_lt hs (by omega)) (zg_j hs) (vp_in_nI hj hz) (by rw [nI_clamp (Nat.lt_trans hj hz), zg_jst hs]; exact kk)
theorem zo_aldF {X : zX} {B : zB} {M : zM} {N : zN} {own : String} {cc : ByteArray} {nL d pc : Nat} {lv : List (Nat × Value)} {st : List Value} {i j : Nat} (o : zOk X B own cc nL d) (hB : znn B = 95) (hd : decode cc pc = .ok (.aaload, 1)) (hs : zsh i = 13) (hj : j < zln i) (hz : zln i < 2 ^ 31) (kk : zW X B (zg B M N) (pc + 1) lv (zref B (i + 7 + 2 * j) :: st)) : zW X B (zg B M N) pc lv (.int (nI j) :: zref B i :: st) :=
  z_aald o hd (by rw [hB]; exact zsh_lt hs (by omega)) (zg_F hs) rfl (vp_in_nI hj hz) (by rw [nI_clamp (Nat.lt_trans hj hz)]; exact kk)
theorem zo_aldL {X : zX} {B : zB} {M : zM} {N : zN} {own : String} {cc : ByteArray} {nL d pc : Nat} {lv : List (Nat × Value)} {st : List Value} {i j : Nat} (o : zOk X B own cc nL d) (hB : znn B = 95) (hd : decode cc pc = .ok (.aaload, 1)) (hs : zsh i = 14) (hj : j < zln i) (hz : zln i < 2 ^ 31) (kk : zW X B (zg B M N) (pc + 1) lv (zref B (i + 11 + 3 * j) :: st)) : zW X B (zg B M N) pc lv (.int (nI j) :: zref B i :: st) :=
  z_aald o hd (by rw [hB]; exact zsh_lt hs (by omega)) (zg_L hs) rfl (vp_in_nI hj hz) (by rw [nI_clamp (Nat.lt_trans hj hz)]; exact kk)
theorem zo_aldS {X : zX} {B : zB} {M : zM} {N : zN} {own : String} {cc : ByteArray} {nL d pc : Nat} {lv : List (Nat × Value)} {st : List Value} {i j : Nat} (o : zOk X B own cc nL d) (hB : znn B = 95) (hd : decode cc pc = .ok (.aaload, 1)) (hs : zsh i = 15) (hj : j < zln i) (hz : zln i < 2 ^ 31) (kk : zW X B (zg B M N) (pc + 1) lv (zref B (i + 2 + 2 * j) :: st)) : zW X B (zg B M N) pc lv (.int (nI j) :: zref B i :: st) :=
  z_aald o hd (by rw [hB]; exact zsh_lt hs (by omega)) (zg_S hs) rfl (vp_in_nI hj hz) (by rw [nI_clamp (Nat.lt_trans hj hz)]; exact kk)
theorem zo_leni {X : zX} {B : zB} {M : zM} {N : zN} {own : String} {cc : ByteArray} {nL d pc : Nat} {lv : List (Nat × Value)} {st : List Value} {i : Nat} (o : zOk X B own cc nL d) (hB : znn B = 95) (hd : decode cc pc = .ok (.arraylength, 1)) (hs : zsh i = 10) (kk : zW X B (zg B M N) (pc + 1) lv (.int (nI (zln i)) :: st)) : zW X B (zg B M N) pc lv (zref B i :: st) :=
  z_alen o hd (by rw [hB]; exact zsh_lt hs (by omega)) (zg_i hs) rfl kk
theorem zo_lenb {X : zX} {B : zB} {M : zM} {N : zN} {own : String} {cc : ByteArray} {nL d pc : Nat} {lv : List (Nat × Value)} {st : List Value} {i : Nat} (o : zOk X B own cc nL d) (hB : znn B = 95) (hd : decode cc pc = .ok (.arraylength, 1)) (hs : zsh i = 11) (kk : zW X B (zg B M N) (pc + 1) lv (.int (nI (zln i)) :: st)) : zW X B (zg B M N) pc lv (zref B i :: st) :=
  z_alen o hd (by rw [hB]; exact zsh_lt hs (by omega)) (zg_b hs) rfl kk
theorem zo_lenL {X : zX} {B : zB} {M : zM} {N : zN} {own : String} {cc : ByteArray} {nL d pc : Nat} {lv : List (Nat × Value)} {st : List Value} {i : Nat} (o : zOk X B own cc nL d) (hB : znn B = 95) (hd : decode cc pc = .ok (.arraylength, 1)) (hs : zsh i = 14) (kk : zW X B (zg B M N) (pc + 1) lv (.int (nI (zln i)) :: st)) : zW X B (zg B M N) pc lv (zref B i :: st) :=
  z_alen o hd (by rw [hB]; exact zsh_lt hs (by omega)) (zg_L hs) rfl kk
theorem zo_nm {X : zX} {B : zB} {M : zM} {N : zN} {pc : Nat} {lv : List (Nat × Value)} {st : List Value} (kk : ∀ M1 : zM, M1 = M → zW X B (zg B M1 N) pc lv st) : zW X B (zg B M N) pc lv st := kk M rfl
theorem zo_nn {X : zX} {B : zB} {M : zM} {N : zN} {pc : Nat} {lv : List (Nat × Value)} {st : List Value} (kk : ∀ N1 : zN, N1 = N → zW X B (zg B M N1) pc lv st) : zW X B (zg B M N) pc lv st := kk N rfl
theorem zo_top {X : zX} {B : zB} {g : Nat → va_E} {pc : Nat} {lv : List (Nat × Value)} {st : List Value} {x : Int32} (kk : ∀ y : Int32, y = x → zW X B g pc lv (.int y :: st)) : zW X B g pc lv (.int x :: st) := kk x rfl
theorem zo_topl {X : zX} {B : zB} {g : Nat → va_E} {pc : Nat} {lv : List (Nat × Value)} {st : List Value} {x : Int64} (kk : ∀ y : Int64, y = x → zW X B g pc lv (.long y :: st)) : zW X B g pc lv (.long x :: st) := kk x rfl
theorem zo_rw {X : zX} {B : zB} {g : Nat → va_E} {pc : Nat} {lv : List (Nat × Value)} {st : List Value} {x y : Int32} (h : x = y) (kk : zW X B g pc lv (.int y :: st)) : zW X B g pc lv (.int x :: st) := by rw [h]; exact kk
theorem zo_rwl {X : zX} {B : zB} {g : Nat → va_E} {pc : Nat} {lv : List (Nat × Value)} {st : List Value} {x y : Int64} (h : x = y) (kk : zW X B g pc lv (.long y :: st)) : zW X B g pc lv (.long x :: st) := by rw [h]; exact kk
theorem zo_st {X : zX} {B : zB} {g : Nat → va_E} {pc : Nat} {lv : List (Nat × Value)} {st st' : List Value} (h : st = st') (kk : zW X B g pc lv st') : zW X B g pc lv st := by rw [h]; exact kk
theorem zo_lv {X : zX} {B : zB} {g : Nat → va_E} {pc : Nat} {lv lv' : List (Nat × Value)} {st : List Value} (ks : List Nat) (h : lv_pick lv ks = lv') (kk : zW X B g pc lv' st) : zW X B g pc lv st := by
  obtain ⟨p, l, e, R, s, m, args, below, meth, c, Q, k1, sl1⟩ := X
  intro H locs ls hP hD hS hl
  exact kk H locs ls hP hD hS (lv_sub hl ks h)
/-! shapes near a shape -/
theorem zh_all : ∀ q < 95, (zsh q = 0 → zsh (q + 1) = 10 ∧ zln (q + 1) = 8) ∧ (zsh q = 1 → zsh (q + 1) = 10 ∧ zln (q + 1) = 60 ∧ zsh (q + 2) = 10 ∧ zln (q + 2) = 60) ∧ (zsh q = 3 → zsh (q + 1) = 10 ∧ zln (q + 1) = 24) := by decide +kernel
theorem zh_F {q : Nat} (h : zsh q = 0) : zsh (q + 1) = 10 := ((zh_all q (zsh_lt h (by decide))).1 h).1
theorem zh_Fn {q : Nat} (h : zsh q = 0) : zln (q + 1) = 8 := ((zh_all q (zsh_lt h (by decide))).1 h).2
theorem zh_L1 {q : Nat} (h : zsh q = 1) : zsh (q + 1) = 10 := ((zh_all q (zsh_lt h (by decide))).2.1 h).1
theorem zh_L1n {q : Nat} (h : zsh q = 1) : zln (q + 1) = 60 := ((zh_all q (zsh_lt h (by decide))).2.1 h).2.1
theorem zh_L2 {q : Nat} (h : zsh q = 1) : zsh (q + 2) = 10 := ((zh_all q (zsh_lt h (by decide))).2.1 h).2.2.1
theorem zh_L2n {q : Nat} (h : zsh q = 1) : zln (q + 2) = 60 := ((zh_all q (zsh_lt h (by decide))).2.1 h).2.2.2
theorem zh_S {q : Nat} (h : zsh q = 3) : zsh (q + 1) = 10 := ((zh_all q (zsh_lt h (by decide))).2.2 h).1
theorem zh_Sn {q : Nat} (h : zsh q = 3) : zln (q + 1) = 24 := ((zh_all q (zsh_lt h (by decide))).2.2 h).2
def zRsh (r : Nat) : Prop := zsh (r + 1) = 13 ∧ zsh (r + 2) = 10 ∧ zsh (r + 3) = 10 ∧ zsh (r + 4) = 11 ∧ zsh (r + 5) = 14 ∧ zsh (r + 6) = 10 ∧ zsh (r + 7) = 12 ∧ (∀ i < 4, zsh (r + 8 + 2 * i) = 0) ∧ (∀ i < 2, zsh (r + 16 + 3 * i) = 1) ∧ zln (r + 1) = 4 ∧ zln (r + 2) = 6 ∧ zln (r + 3) = 6 ∧ zln (r + 4) = 60 ∧ zln (r + 5) = 2 ∧ zln (r + 6) = 24 ∧ zln (r + 7) = 4
theorem zh_R {r : Nat} (h : zsh r = 2) : zRsh r := by
  have hr : r = 1 ∨ r = 23 ∨ r = 45 := (by decide +kernel : ∀ q < 95, zsh q = 2 → q = 1 ∨ q = 23 ∨ q = 45) r (zsh_lt h (by decide)) h
  rcases hr with rfl | rfl | rfl <;> (unfold zRsh; decide +kernel)
theorem zh_Rr {r : Nat} (h : zsh r = 2) : r = 1 ∨ r = 23 ∨ r = 45 := (by decide +kernel : ∀ q < 95, zsh q = 2 → q = 1 ∨ q = 23 ∨ q = 45) r (zsh_lt h (by decide)) h
