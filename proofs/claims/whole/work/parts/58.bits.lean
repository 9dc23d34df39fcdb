/-! longs by their bits (after the kit's rows for ints) -/
def lb (x : Int64) (i : Nat) : Bool := x.toBitVec.getLsbD i
theorem lb_ext {x y : Int64} (h : ∀ i, i < 64 → lb x i = lb y i) : x = y := Int64.toBitVec_inj.mp (BitVec.eq_of_getLsbD_eq (fun i hi => h i hi))
theorem lb_or (x y : Int64) (i : Nat) : lb (x ||| y) i = (lb x i || lb y i) := by unfold lb; rw [Int64.toBitVec_or, BitVec.getLsbD_or]
theorem lb_and (x y : Int64) (i : Nat) : lb (x &&& y) i = (lb x i && lb y i) := by unfold lb; rw [Int64.toBitVec_and, BitVec.getLsbD_and]
theorem lb_xor (x y : Int64) (i : Nat) : lb (x ^^^ y) i = (lb x i ^^ lb y i) := by unfold lb; rw [Int64.toBitVec_xor, BitVec.getLsbD_xor]
theorem lb_big {x : Int64} {i : Nat} (h : 64 ≤ i) : lb x i = false := BitVec.getLsbD_of_ge _ _ h
theorem lb_0 (i : Nat) : lb 0 i = false := BitVec.getLsbD_zero
theorem lb_m1 : ∀ i, i < 64 → lb (-1) i = true := by decide +kernel
theorem lb_1 (i : Nat) : lb 1 i = decide (i = 0) := by
  rcases Nat.lt_or_ge i 64 with h | h
  · exact (by decide +kernel : ∀ i, i < 64 → lb 1 i = decide (i = 0)) i h
  · rw [lb_big h, decide_eq_false (by omega)]
theorem sl_l : ∀ n, n < 64 → (((nI n).toInt64 &&& 63).toBitVec.smod 64).toNat = n := by decide +kernel
theorem sl_u : ∀ n, n < 64 → (((nI n).toInt64.toUInt64 &&& Int64.toUInt64 63).toBitVec % 64).toNat = n := by decide +kernel
theorem lb_shl (n : Nat) (hn : n < 64) (x : Int64) {i : Nat} (hi : i < 64) : lb (x <<< ((nI n).toInt64 &&& 63)) i = (decide (n ≤ i) && lb x (i - n)) := by
  unfold lb
  rw [Int64.toBitVec_shiftLeft]
  show (x.toBitVec <<< (((nI n).toInt64 &&& 63).toBitVec.smod 64).toNat).getLsbD i = _
  rw [sl_l n hn, BitVec.getLsbD_shiftLeft]
  rcases Nat.lt_or_ge i n with h | h
  · simp [h, Nat.not_le.mpr h]
  · simp [hi, h, Nat.not_lt.mpr h]
theorem lb_ushr (n : Nat) (hn : n < 64) (x : Int64) (i : Nat) : lb ((x.toUInt64 >>> ((nI n).toInt64.toUInt64 &&& Int64.toUInt64 63)).toInt64) i = lb x (n + i) := by
  show (x.toUInt64 >>> ((nI n).toInt64.toUInt64 &&& Int64.toUInt64 63)).toBitVec.getLsbD i = x.toUInt64.toBitVec.getLsbD (n + i)
  rw [UInt64.toBitVec_shiftRight]
  show (x.toUInt64.toBitVec >>> (((nI n).toInt64.toUInt64 &&& Int64.toUInt64 63).toBitVec % 64).toNat).getLsbD i = _
  rw [sl_u n hn, BitVec.getLsbD_ushiftRight]
theorem lb_sshr (n : Nat) (hn : n < 64) (x : Int64) {i : Nat} (hi : i < 64) : lb (x >>> ((nI n).toInt64 &&& 63)) i = if n + i < 64 then lb x (n + i) else lb x 63 := by
  unfold lb
  rw [Int64.toBitVec_shiftRight]
  show (x.toBitVec.sshiftRight (((nI n).toInt64 &&& 63).toBitVec.smod 64).toNat).getLsbD i = _
  rw [sl_l n hn, BitVec.getLsbD_sshiftRight, BitVec.msb_eq_getLsbD_last]
  simp [hi]
theorem lb_zero {x : Int64} : x = 0 ↔ ∀ i, i < 64 → lb x i = false := by
  constructor
  · intro h i _; rw [h]; exact lb_0 i
  · intro h; exact lb_ext (fun i hi => by rw [h i hi, lb_0])
theorem and1_0 (x : Int64) : (x &&& 1) = 0 ↔ lb x 0 = false := by
  rw [lb_zero]
  constructor
  · intro h
    have := h 0 (by decide)
    rw [lb_and, lb_1] at this
    simpa using this
  · intro h i hi
    rw [lb_and, lb_1]
    by_cases e : i = 0
    · subst e; simp [h]
    · simp [e]
theorem and1_1 (x : Int64) : (x &&& 1) = 1 ↔ lb x 0 = true := by
  constructor
  · intro h
    have := congrArg (fun y => lb y 0) h
    simp only [lb_and, lb_1] at this
    simpa using this
  · intro h
    refine lb_ext (fun i hi => ?_)
    rw [lb_and, lb_1]
    by_cases e : i = 0
    · subst e; simp [h]
    · simp [e]
/-- has(bits, n) -/
theorem has_bit (x : Int64) {n : Nat} (hn : n < 64) : ((x.toUInt64 >>> ((nI n).toInt64.toUInt64 &&& Int64.toUInt64 63)).toInt64 &&& 1) = 0 ↔ lb x n = false := by
  rw [and1_0, lb_ushr n hn, Nat.add_zero]
theorem sbit_1 (x : Int64) {n : Nat} (hn : n < 64) : ((x >>> ((nI n).toInt64 &&& 63)) &&& 1) = 1 ↔ lb x n = true := by
  rw [and1_1, lb_sshr n hn x (by decide), Nat.add_zero, if_pos hn]
theorem lb_one_shl {n : Nat} (hn : n < 64) {i : Nat} (hi : i < 64) : lb (1 <<< ((nI n).toInt64 &&& 63)) i = decide (i = n) := by
  rw [lb_shl n hn _ hi, lb_1]
  by_cases h : n ≤ i
  · simp only [h, decide_true, Bool.true_and]
    by_cases e : i = n
    · simp [e]
    · simp [e, show ¬ i - n = 0 by omega]
  · simp only [h, decide_false, Bool.false_and]
    simp [show ¬ i = n by omega]
/-! counting ones -/
def pct (p : Nat → Bool) : Nat → Nat
  | 0 => 0
  | n + 1 => pct p n + (if p n then 1 else 0)
def pop (x : Int64) : Nat := pct (lb x) 64
theorem pct_cong {p q : Nat → Bool} : ∀ {n : Nat}, (∀ k, k < n → p k = q k) → pct p n = pct q n
  | 0, _ => rfl
  | n + 1, h => by rw [pct, pct, pct_cong (fun k hk => h k (by omega)), h n (by omega)]
theorem pct_le (p : Nat → Bool) : ∀ n, pct p n ≤ n
  | 0 => Nat.le_refl 0
  | n + 1 => by have := pct_le p n; rw [pct]; split <;> omega
