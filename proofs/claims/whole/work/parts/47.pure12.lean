/-! sets of cells, bit by bit -/
theorem lb_ushr_s : ∀ c, c < 64 → (((nI c).toInt64.toUInt64 &&& Int64.toUInt64 63).toBitVec % 64#64).toNat = c := by decide +kernel
theorem lb_shl_s : ∀ c, c < 64 → (((nI c).toInt64 &&& 63).toBitVec.smod 64).toNat = c := by decide +kernel
theorem lb_ge {x : Int64} {i : Nat} (hi : 64 ≤ i) : lbit x i = false := by
  unfold lbit
  exact BitVec.getLsbD_of_ge _ _ hi
theorem lb_ushr {x : Int64} {c : Nat} (hc : c < 64) (i : Nat) : lbit (zlushr x (nI c)) i = lbit x (c + i) := by
  show (x.toUInt64.toBitVec >>> (((nI c).toInt64.toUInt64 &&& Int64.toUInt64 63).toBitVec % 64#64)).getLsbD i = _
  rw [BitVec.ushiftRight_eq', lb_ushr_s c hc, BitVec.getLsbD_ushiftRight]
  rfl
theorem lb_shl {x : Int64} {c : Nat} (hc : c < 64) {i : Nat} (hi : i < 64) : lbit (zlshl x (nI c)) i = (decide (c ≤ i) && lbit x (i - c)) := by
  show (x.toBitVec <<< (((nI c).toInt64 &&& 63).toBitVec.smod 64)).getLsbD i = _
  rw [BitVec.shiftLeft_eq', lb_shl_s c hc, BitVec.getLsbD_shiftLeft]
  by_cases q : c ≤ i
  · rw [decide_eq_true hi, decide_eq_true q, decide_eq_false (show ¬ i < c by omega)]; rfl
  · rw [decide_eq_false q, decide_eq_true (show i < c by omega), decide_eq_true hi]; rfl
theorem lb_one : ∀ i, i < 64 → lbit 1 i = decide (i = 0) := by decide +kernel
theorem lb_has {x : Int64} {c : Nat} (hc : c < 64) : zlushr x (nI c) &&& 1 = 1 ↔ lbit x c = true := by
  have e : ∀ i, i < 64 → lbit (zlushr x (nI c) &&& 1) i = (lbit x (c + i) && decide (i = 0)) := fun i hi => by rw [lbit_and, lb_ushr hc, lb_one i hi]
  constructor
  · intro w
    have e0 := e 0 (by decide)
    rw [w] at e0
    have e1 : lbit 1 0 = true := by decide
    rw [e1] at e0
    have e0 : true = (lbit x (c + 0) && true) := e0
    rw [Bool.and_true] at e0
    exact e0.symm
  · intro w
    apply lbit_ext
    intro i hi
    rw [e i hi, lb_one i hi]
    by_cases q : i = 0
    · subst q; rw [Nat.add_zero, w]; rfl
    · rw [decide_eq_false q, Bool.and_false]
theorem lb_has0 {x : Int64} {c : Nat} (hc : c < 64) : zlushr x (nI c) &&& 1 = 0 ↔ lbit x c = false := by
  have e : ∀ i, i < 64 → lbit (zlushr x (nI c) &&& 1) i = (lbit x (c + i) && decide (i = 0)) := fun i hi => by rw [lbit_and, lb_ushr hc, lb_one i hi]
  constructor
  · intro w
    have e0 := e 0 (by decide)
    rw [w, lbit_0] at e0
    have e0 : false = (lbit x (c + 0) && true) := e0
    rw [Bool.and_true] at e0
    exact e0.symm
  · intro w
    apply lbit_ext
    intro i hi
    rw [e i hi, lbit_0]
    by_cases q : i = 0
    · subst q; rw [Nat.add_zero, w]; rfl
    · rw [decide_eq_false q, Bool.and_false]
theorem lb_bit {c : Nat} (hc : c < 64) {i : Nat} (hi : i < 64) : lbit (zlshl 1 (nI c)) i = decide (i = c) := by
  rw [lb_shl hc hi]
  by_cases q : c ≤ i
  · rw [decide_eq_true q, Bool.true_and, lb_one _ (by omega)]
    by_cases w : i = c
    · subst w; rw [Nat.sub_self]; rw [decide_eq_true rfl, decide_eq_true rfl]
    · rw [decide_eq_false w, decide_eq_false (by omega)]
  · rw [decide_eq_false q, Bool.false_and, decide_eq_false (by omega)]
theorem lb_not {x : Int64} {i : Nat} (hi : i < 64) : lbit (x ^^^ (-1)) i = !lbit x i := by
  rw [lbit_xor, lbit_m1 i hi, Bool.xor_true]
def cg_nx (x : Int64) (w : Int32) : Int64 := if w = 0 then zlushr x 8 else if w = 1 then zlshl (x &&& 9187201950435737471) 1 else if w = 2 then zlshl x 8 else if w = 3 then zlushr (x &&& (-72340172838076674)) 1 else 0
theorem lb_nf : ∀ i, i < 64 → lbit (-72340172838076674) i = decide (i % 8 ≠ 0) := by decide +kernel
theorem lb_nl : ∀ i, i < 64 → lbit 9187201950435737471 i = decide (i % 8 ≠ 7) := by decide +kernel
theorem cg_beside (x : Int64) : cg_nx x 0 ||| cg_nx x 1 ||| cg_nx x 2 ||| cg_nx x 3 = sp_beside x := by
  apply lbit_ext
  intro i hi
  unfold cg_nx sp_beside
  rw [if_pos rfl, if_neg (by decide), if_pos rfl, if_neg (by decide), if_neg (by decide), if_pos rfl, if_neg (by decide), if_neg (by decide), if_neg (by decide), if_pos rfl]
  simp only [lbit_or, lbit_and]
  rw [show (8 : Int32) = nI 8 from rfl, show (1 : Int32) = nI 1 from rfl, lb_ushr (by decide), lb_shl (by decide) hi, lb_shl (by decide) hi, lb_ushr (by decide), lb_shl (by decide) hi, lb_ushr (by decide), lbit_and, lbit_and, lb_nf i hi, lb_nl i hi]
  have e1 : (decide (1 ≤ i) && (lbit x (i - 1) && lbit 9187201950435737471 (i - 1))) = (decide (1 ≤ i) && lbit x (i - 1) && decide (i % 8 ≠ 0)) := by
    by_cases q : 1 ≤ i
    · rw [lb_nl _ (by omega), decide_eq_true q, Bool.true_and, Bool.true_and]
      congr 1
      exact decide_eq_decide.mpr (by omega)
    · rw [decide_eq_false q, Bool.false_and, Bool.false_and, Bool.false_and]
  have e2 : (lbit x (1 + i) && lbit (-72340172838076674) (1 + i)) = (lbit x (1 + i) && decide (i % 8 ≠ 7)) := by
    rcases Nat.lt_or_ge (1 + i) 64 with q | q
    · rw [lb_nf _ q]
      congr 1
      exact decide_eq_decide.mpr (by omega)
    · rw [lb_ge q, Bool.false_and, Bool.false_and]
  rw [e1, e2]
  generalize lbit x (8 + i) = a
  generalize (decide (1 ≤ i) && lbit x (i - 1) && decide (i % 8 ≠ 0)) = b
  generalize (decide (8 ≤ i) && lbit x (i - 8)) = c
  generalize (lbit x (1 + i) && decide (i % 8 ≠ 7)) = d
  cases a <;> cases b <;> cases c <;> cases d <;> rfl
def cg_next (c w : Int32) : Int32 := if w = 0 then (if c < 8 then -1 else c - 8) else if w = 1 then (if zirem c 8 < 7 then c + 1 else -1) else if w = 2 then (if c < 56 then c + 8 else -1) else if w = 3 then (if 0 < zirem c 8 then c - 1 else -1) else -1
theorem cg_next_eq {k : Nat} (hk : k < 64) (w : Int32) : cg_next (nI k) w = sp_next (nI k) w := by
  have a1 : ∀ k, k < 64 → (if zirem (nI k) 8 < 7 then nI k + 1 else -1) = (if zirem (nI k) 8 = 7 then -1 else nI k + 1) := by decide +kernel
  have a2 : ∀ k, k < 64 → (if nI k < 56 then nI k + 8 else -1) = (if 55 < nI k then -1 else nI k + 8) := by decide +kernel
  have a3 : ∀ k, k < 64 → (if 0 < zirem (nI k) 8 then nI k - 1 else -1) = (if zirem (nI k) 8 = 0 then -1 else nI k - 1) := by decide +kernel
  unfold cg_next sp_next
  rw [a1 k hk, a2 k hk, a3 k hk]
