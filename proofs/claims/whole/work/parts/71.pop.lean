/-! counting ones by halves: Long.bitCount; sums -/
def mk8 (v : Nat) : Nat → Nat
  | 0 => 0
  | k + 1 => 256 * mk8 v k + v
set_option maxRecDepth 100000 in
set_option maxHeartbeats 400000 in
theorem and_spl {m K B k : Nat} (hB : B < 256) (hk : k < 256) : (256 * m + B) &&& (256 * K + k) = 256 * (m &&& K) + (B &&& k) := by
  apply Nat.eq_of_testBit_eq
  intro i
  have hB' : B < 2 ^ 8 := hB
  have hk' : k < 2 ^ 8 := hk
  have hx : B &&& k < 2 ^ 8 := Nat.lt_of_le_of_lt Nat.and_le_left hB
  show ((2 ^ 8 * m + B) &&& (2 ^ 8 * K + k)).testBit i = (2 ^ 8 * (m &&& K) + (B &&& k)).testBit i
  rw [Nat.testBit_and, Nat.testBit_two_pow_mul_add _ hB', Nat.testBit_two_pow_mul_add _ hk', Nat.testBit_two_pow_mul_add _ hx]
  split
  · rw [Nat.testBit_and]
  · rw [Nat.testBit_and]
def w1 (k n : Nat) : Nat := n - ((n / 2) &&& mk8 85 k)
def w2 (k n : Nat) : Nat := (n &&& mk8 51 k) + ((n / 4) &&& mk8 51 k)
def w3 (k n : Nat) : Nat := (n + n / 16) &&& mk8 15 k
set_option maxRecDepth 100000 in
set_option maxHeartbeats 400000 in
theorem w1_f : ∀ p, p < 2 → ∀ B, B < 256 → (128 * p + B / 2) &&& 85 = (B / 2) &&& 85 := by decide +kernel
set_option maxRecDepth 100000 in
set_option maxHeartbeats 400000 in
theorem w2_f : ∀ p, p < 4 → ∀ B, B < 256 → (64 * p + B / 4) &&& 51 = (B / 4) &&& 51 := by decide +kernel
set_option maxRecDepth 100000 in
set_option maxHeartbeats 400000 in
theorem w3_f : ∀ p, p < 5 → ∀ B, B < 69 → (B + B / 16 + 16 * p) &&& 15 = (B + B / 16) &&& 15 := by decide +kernel
set_option maxRecDepth 100000 in
set_option maxHeartbeats 400000 in
theorem mk8_1 (v : Nat) : mk8 v 1 = v := by show 256 * 0 + v = v; omega
set_option maxRecDepth 100000 in
set_option maxHeartbeats 400000 in
theorem w1_s (k n : Nat) : w1 (k + 1) n = 256 * w1 k (n / 256) + w1 1 (n % 256) := by
  unfold w1
  have e : n / 2 = 256 * (n / 256 / 2) + (128 * (n / 256 % 2) + n % 256 / 2) := by omega
  rw [e, mk8_1, show mk8 85 (k + 1) = 256 * mk8 85 k + 85 from rfl, and_spl (by omega) (by omega), w1_f _ (Nat.mod_lt _ (by omega)) _ (Nat.mod_lt _ (by omega))]
  have h1 : n / 256 / 2 &&& mk8 85 k ≤ n / 256 / 2 := Nat.and_le_left
  have h2 : n % 256 / 2 &&& 85 ≤ n % 256 / 2 := Nat.and_le_left
  generalize n / 256 / 2 &&& mk8 85 k = X at *
  generalize n % 256 / 2 &&& 85 = Y at *
  omega
set_option maxRecDepth 100000 in
set_option maxHeartbeats 400000 in
theorem w2_s (k n : Nat) : w2 (k + 1) n = 256 * w2 k (n / 256) + w2 1 (n % 256) := by
  unfold w2
  have e : n / 4 = 256 * (n / 256 / 4) + (64 * (n / 256 % 4) + n % 256 / 4) := by omega
  have e0 : n = 256 * (n / 256) + n % 256 := by omega
  have e1 : n &&& mk8 51 (k + 1) = 256 * (n / 256 &&& mk8 51 k) + (n % 256 &&& 51) := by
    conv => lhs; rw [e0]
    exact and_spl (by omega) (by omega)
  rw [e1, e, mk8_1, show mk8 51 (k + 1) = 256 * mk8 51 k + 51 from rfl, and_spl (by omega) (by omega), w2_f _ (Nat.mod_lt _ (by omega)) _ (Nat.mod_lt _ (by omega))]
  generalize n / 256 / 4 &&& mk8 51 k = X
  generalize n % 256 / 4 &&& 51 = Y
  generalize n / 256 &&& mk8 51 k = Z
  generalize n % 256 &&& 51 = T
  omega
set_option maxRecDepth 100000 in
set_option maxHeartbeats 400000 in
theorem w3_s (k n : Nat) (h1 : n % 256 ≤ 68) (h2 : n / 256 % 16 ≤ 4) : w3 (k + 1) n = 256 * w3 k (n / 256) + w3 1 (n % 256) := by
  unfold w3
  have e : n + n / 16 = 256 * (n / 256 + n / 256 / 16) + (n % 256 + n % 256 / 16 + 16 * (n / 256 % 16)) := by omega
  rw [e, mk8_1, show mk8 15 (k + 1) = 256 * mk8 15 k + 15 from rfl, and_spl (by omega) (by omega), w3_f _ (by omega) _ (by omega)]
def wv (k n : Nat) : Nat := w2 k (w1 k n)
set_option maxRecDepth 100000 in
set_option maxHeartbeats 400000 in
theorem w1_b : ∀ B, B < 256 → w1 1 B < 256 := by decide +kernel
set_option maxRecDepth 100000 in
set_option maxHeartbeats 400000 in
theorem wv_b : ∀ B, B < 256 → wv 1 B ≤ 68 ∧ wv 1 B % 16 ≤ 4 := by decide +kernel
set_option maxRecDepth 100000 in
set_option maxHeartbeats 400000 in
theorem wv_s (k n : Nat) : wv (k + 1) n = 256 * wv k (n / 256) + wv 1 (n % 256) := by
  unfold wv
  have h1 := w1_b _ (Nat.mod_lt n (y := 256) (by omega))
  rw [w2_s, w1_s, show (256 * w1 k (n / 256) + w1 1 (n % 256)) / 256 = w1 k (n / 256) by omega, show (256 * w1 k (n / 256) + w1 1 (n % 256)) % 256 = w1 1 (n % 256) by omega]
set_option maxRecDepth 100000 in
set_option maxHeartbeats 400000 in
theorem wv_4 (k n : Nat) : wv k n % 16 ≤ 4 := by
  cases k with
  | zero =>
    show ((w1 0 n &&& 0) + ((w1 0 n / 4) &&& 0)) % 16 ≤ 4
    rw [Nat.and_zero, Nat.and_zero]
    decide
  | succ k =>
    have h1 := wv_b _ (Nat.mod_lt n (y := 256) (by omega))
    rw [wv_s]
    omega
def wu (k n : Nat) : Nat := w3 k (wv k n)
set_option maxRecDepth 100000 in
set_option maxHeartbeats 400000 in
theorem wu_s (k n : Nat) : wu (k + 1) n = 256 * wu k (n / 256) + wu 1 (n % 256) := by
  unfold wu
  have h1 := wv_b _ (Nat.mod_lt n (y := 256) (by omega))
  have h2 := wv_4 k (n / 256)
  have e1 : wv (k + 1) n / 256 = wv k (n / 256) := by rw [wv_s]; omega
  have e2 : wv (k + 1) n % 256 = wv 1 (n % 256) := by rw [wv_s]; omega
  rw [w3_s _ _ (by rw [e2]; omega) (by rw [e1]; omega), e1, e2]
set_option maxRecDepth 100000 in
set_option maxHeartbeats 400000 in
theorem wu_0 (n : Nat) : wu 0 n = 0 := by
  show ((wv 0 n + wv 0 n / 16) &&& 0) = 0
  exact Nat.and_zero _
def nb (n : Nat) (i : Nat) : Bool := n.testBit i
set_option maxRecDepth 100000 in
set_option maxHeartbeats 400000 in
theorem wu_b : ∀ B, B < 256 → wu 1 B = pct (nb B) 8 := by decide +kernel
set_option maxRecDepth 100000 in
set_option maxHeartbeats 400000 in
theorem pct_add (p : Nat → Bool) (a : Nat) : ∀ b, pct p (a + b) = pct p a + pct (fun i => p (a + i)) b
  | 0 => by simp [pct]
  | b + 1 => by rw [← Nat.add_assoc, pct, pct_add p a b, pct]; omega
/-- bytes' ones -/
def sb8 : Nat → Nat → Nat
  | 0, _ => 0
  | k + 1, n => pct (nb (n % 256)) 8 + sb8 k (n / 256)
set_option maxRecDepth 100000 in
set_option maxHeartbeats 400000 in
theorem sb8_pct : ∀ k n, pct (nb n) (8 * k) = sb8 k n
  | 0, _ => rfl
  | k + 1, n => by
    rw [show 8 * (k + 1) = 8 + 8 * k by omega, pct_add, sb8, ← sb8_pct k (n / 256)]
    congr 1
    · refine pct_cong (fun i hi => ?_)
      unfold nb
      rw [show (256 : Nat) = 2 ^ 8 from rfl, Nat.testBit_mod_two_pow]
      simp [hi]
    · refine pct_cong (fun i hi => ?_)
      unfold nb
      rw [show n / 256 = n >>> 8 from (Nat.shiftRight_eq_div_pow n 8).symm, Nat.testBit_shiftRight]
set_option maxRecDepth 100000 in
set_option maxHeartbeats 400000 in
theorem wf1 {a X R : Nat} (ha : a ≤ 8) (hR : R = a + 256 * X) : R / 256 = X := by omega
set_option maxRecDepth 100000 in
set_option maxHeartbeats 400000 in
theorem wf2 {s0 s1 Y q : Nat} (h0 : s0 ≤ 16) (h1 : s1 ≤ 16) (h : q = s0 + 256 * s1 + 65536 * Y) : q / 65536 = Y := by omega
set_option maxRecDepth 100000 in
set_option maxHeartbeats 400000 in
theorem wf3 {s0 s1 s2 s3 Y q : Nat} (h0 : s0 ≤ 32) (h1 : s1 ≤ 32) (h2 : s2 ≤ 32) (h3 : s3 ≤ 32) (h : q = s0 + 256 * s1 + 65536 * s2 + 16777216 * s3 + 4294967296 * Y) : q / 4294967296 = Y := by omega
set_option maxRecDepth 100000 in
set_option maxHeartbeats 400000 in
theorem wf4 {s Z q : Nat} (h0 : s ≤ 64) (h : q = s + 256 * Z) : q % 128 = s := by omega
set_option maxRecDepth 100000 in
set_option maxHeartbeats 400000 in
theorem wfold {a b c d e f g t : Nat} (h0 : a ≤ 8) (h1 : b ≤ 8) (h2 : c ≤ 8) (h3 : d ≤ 8) (h4 : e ≤ 8) (h5 : f ≤ 8) (h6 : g ≤ 8) (h7 : t ≤ 8) {R q1 q2 q3 : Nat} (hR : R = a + 256 * b + 65536 * c + 16777216 * d + 4294967296 * e + 1099511627776 * f + 281474976710656 * g + 72057594037927936 * t) (e1 : q1 = R + R / 256) (e2 : q2 = q1 + q1 / 65536) (e3 : q3 = q2 + q2 / 4294967296) : q1 < 18446744073709551616 ∧ q2 < 18446744073709551616 ∧ q3 < 18446744073709551616 ∧ q3 % 128 = a + b + c + d + e + f + g + t := by
  have x6 : ∃ X, X = g + 256 * t := ⟨_, rfl⟩
  obtain ⟨X6, x6⟩ := x6
  have x5 : ∃ X, X = f + 256 * X6 := ⟨_, rfl⟩
  obtain ⟨X5, x5⟩ := x5
  have x4 : ∃ X, X = e + 256 * X5 := ⟨_, rfl⟩
  obtain ⟨X4, x4⟩ := x4
  have x3 : ∃ X, X = d + 256 * X4 := ⟨_, rfl⟩
  obtain ⟨X3, x3⟩ := x3
  have x2 : ∃ X, X = c + 256 * X3 := ⟨_, rfl⟩
  obtain ⟨X2, x2⟩ := x2
  have x1 : ∃ X, X = b + 256 * X2 := ⟨_, rfl⟩
  obtain ⟨X1, x1⟩ := x1
  have r1 : R = a + 256 * X1 := by rw [hR, x1, x2, x3, x4, x5, x6]; clear e1 e2 e3; omega
  rw [wf1 h0 r1] at e1
  have r2 : q1 = (a + b) + 256 * (b + c) + 65536 * (X2 + X3) := by rw [e1, r1, x1, x2]; clear e2 e3 hR r1 e1 x1 x2 x3 x4 x5 x6; omega
  rw [wf2 (by omega) (by omega) r2] at e2
  have r3 : q2 = (a + b + c + d) + 256 * (b + c + d + e) + 65536 * (c + d + e + f) + 16777216 * (d + e + f + g) + 4294967296 * (X4 + X5 + X6 + t) := by
    rw [e2, r2, x2, x3, x4, x5, x6]; clear e3 hR r1 e1 x1 x2 x3 x4 x5 x6 r2 e2; omega
  rw [wf3 (by omega) (by omega) (by omega) (by omega) r3] at e3
  have r4 : q3 = (a + b + c + d + e + f + g + t) + 256 * ((b + c + d + e) + 256 * (c + d + e + f) + 65536 * (d + e + f + g) + 16777216 * (X4 + X5 + X6 + t) + (X5 + X6 + t)) := by
    rw [e3, r3, x4, x5, x6]; clear hR r1 e1 x1 x2 x3 x4 x5 x6 r2 e2 r3 e3; omega
  have b6 : X6 ≤ 2056 := by omega
  have b5 : X5 ≤ 526344 := by omega
  have b4 : X4 ≤ 134744072 := by omega
  have b3 : X3 ≤ 34494482440 := by omega
  have b2 : X2 ≤ 8830587504648 := by omega
  refine ⟨?_, ?_, ?_, wf4 (by omega) r4⟩
  · clear r3 r4 e1 e2 e3 r1 hR x1 x2 x3 x4 x5 x6; omega
  · clear r2 r4 e1 e2 e3 r1 hR x1 x2 x3 x4 x5 x6; omega
  · clear r2 r3 e1 e2 e3 r1 hR x1 x2 x3 x4 x5 x6; omega
def tn (x : Int64) : Nat := x.toBitVec.toNat
set_option maxRecDepth 100000 in
set_option maxHeartbeats 400000 in
theorem tn_lt (x : Int64) : tn x < 18446744073709551616 := x.toBitVec.isLt
set_option maxRecDepth 100000 in
set_option maxHeartbeats 400000 in
theorem tn_and (x y : Int64) : tn (x &&& y) = tn x &&& tn y := by unfold tn; rw [Int64.toBitVec_and, BitVec.toNat_and]
set_option maxRecDepth 100000 in
set_option maxHeartbeats 400000 in
theorem tn_add {x y : Int64} (h : tn x + tn y < 18446744073709551616) : tn (x + y) = tn x + tn y := by
  unfold tn at *
  rw [Int64.toBitVec_add, BitVec.toNat_add]
  exact Nat.mod_eq_of_lt h
set_option maxRecDepth 100000 in
set_option maxHeartbeats 400000 in
theorem tn_sub {x y : Int64} (h : tn y ≤ tn x) : tn (x - y) = tn x - tn y := by
  have := tn_lt x
  unfold tn at *
  rw [Int64.toBitVec_sub, BitVec.toNat_sub]
  omega
set_option maxRecDepth 100000 in
set_option maxHeartbeats 400000 in
theorem tn_ushr (n : Nat) (hn : n < 64) (x : Int64) : tn ((x.toUInt64 >>> ((nI n).toInt64.toUInt64 &&& Int64.toUInt64 63)).toInt64) = tn x / 2 ^ n := by
  show (x.toUInt64 >>> ((nI n).toInt64.toUInt64 &&& Int64.toUInt64 63)).toBitVec.toNat = x.toUInt64.toBitVec.toNat / 2 ^ n
  rw [UInt64.toBitVec_shiftRight]
  show (x.toUInt64.toBitVec >>> (((nI n).toInt64.toUInt64 &&& Int64.toUInt64 63).toBitVec % 64).toNat).toNat = _
  rw [sl_u n hn, BitVec.toNat_ushiftRight, Nat.shiftRight_eq_div_pow]
set_option maxRecDepth 100000 in
set_option maxHeartbeats 400000 in
theorem tn_lN (x : Int64) : x = lN (tn x) := by
  apply Int64.toBitVec_inj.mp
  show x.toBitVec = BitVec.ofNat 64 x.toBitVec.toNat
  rw [BitVec.ofNat_toNat, BitVec.setWidth_eq]
set_option maxRecDepth 100000 in
set_option maxHeartbeats 400000 in
theorem pct8_le (p : Nat → Bool) : pct p 8 ≤ 8 := pct_le p 8
set_option maxRecDepth 100000 in
set_option maxHeartbeats 400000 in
theorem k210 (d : Nat) (x : Int64) (S : aS) (h : aH) : call d 210 [.long x] S h = some (some (.int (nI (pop x))), S, h) := by
  simp only [c210, u210_0, u210_1, u210_2, u210_3, u210_4, u210_7, u210_8, u210_9, u210_10, u210_11, u210_14, u210_15, u210_16, u210_17, u210_18, u210_21, u210_22, u210_23, u210_24, u210_25, u210_26, u210_27, u210_28, u210_29, u210_32, u210_33, u210_34, u210_35, u210_36, u210_38, u210_39, u210_40, u210_41, u210_42, u210_43, u210_45, u210_46, u210_47, u210_48, u210_49, u210_50, u210_52, u210_53, u210_54, u210_55, u210_56, u210_57, u210_59, u210_60, ↓br_eq, ↓reduceIte, gd_true, ls_0, ls_1i, ls_1r, ls_1n, ls_1l, ls_2, ls2_eq, List.set_cons_zero, List.set_cons_succ, rf_s, cs_nil, cs_int, cs_ref, cs_long, Option.bind_some, Option.toList_some, Option.toList_none, List.nil_append, List.cons_append, Nat.reduceAdd, Nat.reduceSub, Nat.reduceMul, Nat.reduceLT, Nat.reduceLeDiff, Nat.reduceEqDiff, Int32.reduceAdd, Int32.reduceSub, Int32.reduceMul, Int32.reduceLT, Int32.reduceLE, Int32.reduceToInt, Int32.reduceToNatClampNeg, Int.reduceLE, Int.reduceLT, Int.reduceSub, Int.reduceToNat, and_self, true_and, and_true, or_true, true_or, false_or, or_false, false_and, and_false, not_false_eq_true, not_true_eq_false, eq_self]
  simp only [li_1, li_2, li_4, li_8, li_16, li_32]
  refine congrArg (fun v => some (some (Value.int v), S, h)) ?_
  have hl := tn_lt x
  have m85 : mk8 85 8 = 6148914691236517205 := by decide +kernel
  have m51 : mk8 51 8 = 3689348814741910323 := by decide +kernel
  have m15 : mk8 15 8 = 1085102592571150095 := by decide +kernel
  have n85 : tn 6148914691236517205 = 6148914691236517205 := by decide +kernel
  have n51 : tn 3689348814741910323 = 3689348814741910323 := by decide +kernel
  have n15 : tn 1085102592571150095 = 1085102592571150095 := by decide +kernel
  have t1 := tn_ushr 1 (by decide) x
  rw [show (2 : Nat) ^ 1 = 2 from rfl] at t1
  generalize ((x.toUInt64 >>> ((nI 1).toInt64.toUInt64 &&& Int64.toUInt64 63)).toInt64) = y1 at *
  have a1 : tn (y1 &&& 6148914691236517205) = tn x / 2 &&& mk8 85 8 := by rw [tn_and, t1, n85, m85]
  have b1 : tn (x - (y1 &&& 6148914691236517205)) = w1 8 (tn x) := by
    rw [tn_sub (by rw [a1]; exact Nat.le_trans Nat.and_le_left (Nat.div_le_self _ _)), a1]; unfold w1; exact Eq.refl _
  generalize (x - (y1 &&& 6148914691236517205)) = z1 at *
  have t2 := tn_ushr 2 (by decide) z1
  rw [show (2 : Nat) ^ 2 = 4 from rfl] at t2
  generalize ((z1.toUInt64 >>> ((nI 2).toInt64.toUInt64 &&& Int64.toUInt64 63)).toInt64) = y2 at *
  have a2 : tn (y2 &&& 3689348814741910323) = w1 8 (tn x) / 4 &&& mk8 51 8 := by rw [tn_and, t2, b1, n51, m51]
  have a3 : tn (z1 &&& 3689348814741910323) = w1 8 (tn x) &&& mk8 51 8 := by rw [tn_and, b1, n51, m51]
  have a4 : tn (y2 &&& 3689348814741910323) ≤ 3689348814741910323 := by rw [a2, ← m51]; exact Nat.and_le_right
  have a5 : tn (z1 &&& 3689348814741910323) ≤ 3689348814741910323 := by rw [a3, ← m51]; exact Nat.and_le_right
  have b2 : tn ((z1 &&& 3689348814741910323) + (y2 &&& 3689348814741910323)) = wv 8 (tn x) := by
    rw [tn_add (by omega), a2, a3]; unfold wv w2; exact Eq.refl _
  have b2' : wv 8 (tn x) ≤ 2 * 3689348814741910323 := by rw [← b2, tn_add (by omega)]; omega
  generalize (z1 &&& 3689348814741910323) + (y2 &&& 3689348814741910323) = z2 at *
  have t3 := tn_ushr 4 (by decide) z2
  rw [show (2 : Nat) ^ 4 = 16 from rfl] at t3
  generalize ((z2.toUInt64 >>> ((nI 4).toInt64.toUInt64 &&& Int64.toUInt64 63)).toInt64) = y3 at *
  have b3 : tn ((z2 + y3) &&& 1085102592571150095) = wu 8 (tn x) := by
    rw [tn_and, tn_add (by rw [t3, b2]; omega), t3, b2, n15, ← m15]; unfold wu w3; exact Eq.refl _
  generalize ((z2 + y3) &&& 1085102592571150095) = z3 at *
  have t4 := tn_ushr 8 (by decide) z3
  rw [show (2 : Nat) ^ 8 = 256 from rfl] at t4
  generalize ((z3.toUInt64 >>> ((nI 8).toInt64.toUInt64 &&& Int64.toUInt64 63)).toInt64) = y4 at *
  have q : ∀ B, wu 1 (B % 256) = pct (nb (B % 256)) 8 := fun B => wu_b _ (Nat.mod_lt _ (by decide))
  have hw := wfold (pct8_le (nb (tn x % 256))) (pct8_le (nb (tn x / 256 % 256))) (pct8_le (nb (tn x / 256 / 256 % 256))) (pct8_le (nb (tn x / 256 / 256 / 256 % 256))) (pct8_le (nb (tn x / 256 / 256 / 256 / 256 % 256))) (pct8_le (nb (tn x / 256 / 256 / 256 / 256 / 256 % 256))) (pct8_le (nb (tn x / 256 / 256 / 256 / 256 / 256 / 256 % 256))) (pct8_le (nb (tn x / 256 / 256 / 256 / 256 / 256 / 256 / 256 % 256))) (R := wu 8 (tn x)) (by
    rw [wu_s 7, wu_s 6, wu_s 5, wu_s 4, wu_s 3, wu_s 2, wu_s 1, wu_s 0, wu_0]
    simp only [q]
    omega) (Eq.refl _) (Eq.refl _) (Eq.refl _)
  have hp : pop x = sb8 8 (tn x) := by rw [← sb8_pct]; rfl
  simp only [sb8] at hp
  obtain ⟨g1, g2, g3, g4⟩ := hw
  have b4 : tn (z3 + y4) = wu 8 (tn x) + wu 8 (tn x) / 256 := by
    rw [tn_add (by rw [t4, b3]; exact g1), t4, b3]
  generalize (z3 + y4) = z4 at *
  have t5 := tn_ushr 16 (by decide) z4
  rw [show (2 : Nat) ^ 16 = 65536 from rfl] at t5
  generalize ((z4.toUInt64 >>> ((nI 16).toInt64.toUInt64 &&& Int64.toUInt64 63)).toInt64) = y5 at *
  have b5 : tn (z4 + y5) = wu 8 (tn x) + wu 8 (tn x) / 256 + (wu 8 (tn x) + wu 8 (tn x) / 256) / 65536 := by
    rw [tn_add (by rw [t5, b4]; exact g2), t5, b4]
  generalize (z4 + y5) = z5 at *
  have t6 := tn_ushr 32 (by decide) z5
  rw [show (2 : Nat) ^ 32 = 4294967296 from rfl] at t6
  generalize ((z5.toUInt64 >>> ((nI 32).toInt64.toUInt64 &&& Int64.toUInt64 63)).toInt64) = y6 at *
  have b6 : tn (z5 + y6) % 128 = pop x := by
    rw [tn_add (by rw [t6, b5]; exact g3), t6, b5, hp]
    exact g4.trans (by omega)
  generalize (z5 + y6) = z6 at *
  rw [tn_lN z6, lN_i, pk_and _ 7 (by decide +kernel), show (nI (tn z6)).toBitVec.toNat = tn z6 % 2 ^ 32 from BitVec.toNat_ofNat _ _, ← b6]
  congr 1
  omega
/-! sums -/
def sm (f : Nat → Nat) : Nat → Nat
  | 0 => 0
  | n + 1 => sm f n + f n
set_option maxRecDepth 100000 in
set_option maxHeartbeats 400000 in
theorem sm_cong {f g : Nat → Nat} : ∀ {n : Nat}, (∀ k, k < n → f k = g k) → sm f n = sm g n
  | 0, _ => rfl
  | n + 1, h => by rw [sm, sm, sm_cong (fun k hk => h k (by omega)), h n (by omega)]
set_option maxRecDepth 100000 in
set_option maxHeartbeats 400000 in
theorem sm_0 {f : Nat → Nat} : ∀ {n : Nat}, (∀ k, k < n → f k = 0) → sm f n = 0
  | 0, _ => rfl
  | n + 1, h => by rw [sm, sm_0 (fun k hk => h k (by omega)), h n (by omega)]
set_option maxRecDepth 100000 in
set_option maxHeartbeats 400000 in
theorem sm_app (f : Nat → Nat) (a : Nat) : ∀ b, sm f (a + b) = sm f a + sm (fun i => f (a + i)) b
  | 0 => by simp [sm]
  | b + 1 => by rw [← Nat.add_assoc, sm, sm_app f a b, sm]; omega
set_option maxRecDepth 100000 in
set_option maxHeartbeats 400000 in
theorem sm_mul (f : Nat → Nat) (b : Nat) : ∀ a, sm f (b * a) = sm (fun i => sm (fun j => f (b * i + j)) b) a
  | 0 => by simp [sm]
  | a + 1 => by rw [Nat.mul_succ, sm_app, sm_mul f b a, sm]
set_option maxRecDepth 100000 in
set_option maxHeartbeats 400000 in
theorem sm_plus (f g : Nat → Nat) : ∀ n, sm (fun k => f k + g k) n = sm f n + sm g n
  | 0 => rfl
  | n + 1 => by rw [sm, sm, sm, sm_plus f g n]; omega
set_option maxRecDepth 100000 in
set_option maxHeartbeats 400000 in
theorem sm_le {f : Nat → Nat} {c : Nat} : ∀ {n : Nat}, (∀ k, k < n → f k ≤ c) → sm f n ≤ c * n
  | 0, _ => by simp [sm]
  | n + 1, h => by
    have := sm_le (f := f) (c := c) (n := n) (fun k hk => h k (by omega))
    have := h n (by omega)
    rw [sm, Nat.mul_succ]; omega
set_option maxRecDepth 100000 in
set_option maxHeartbeats 400000 in
theorem sm_one {f : Nat → Nat} {a : Nat} : ∀ {n : Nat}, a < n → (∀ k, k < n → k ≠ a → f k = 0) → sm f n = f a
  | n + 1, ha, h => by
    rw [sm]
    by_cases e : a = n
    · subst e
      rw [sm_0 (fun k hk => h k (by omega) (by omega))]; omega
    · rw [sm_one (a := a) (by omega) (fun k hk hn => h k (by omega) hn), h n (by omega) (by omega)]; omega
set_option maxRecDepth 100000 in
set_option maxHeartbeats 400000 in
theorem pct_sm (p : Nat → Bool) : ∀ n, pct p n = sm (fun k => if p k then 1 else 0) n
  | 0 => rfl
  | n + 1 => by rw [pct, sm, pct_sm p n]
/-! rows of eight as rows of seven -/
set_option maxRecDepth 100000 in
set_option maxHeartbeats 400000 in
theorem sm_87 {f : Nat → Nat} (h0 : ∀ b, ¬ (b % 8 < 7 ∧ b / 8 < 6) → f b = 0) : sm f 64 = sm (fun k => f (8 * (k / 7) + k % 7)) 42 := by
  rw [show (64 : Nat) = 8 * 8 from rfl, sm_mul, show (42 : Nat) = 7 * 6 from rfl, sm_mul, show (8 : Nat) = 6 + 2 from rfl, sm_app, sm_0 (n := 2) (fun k hk => sm_0 (fun j hj => h0 _ (by omega))), Nat.add_zero]
  refine sm_cong (fun i hi => ?_)
  rw [show (6 + 2 : Nat) = 7 + 1 from rfl, sm, h0 _ (by omega), Nat.add_zero]
  refine sm_cong (fun j hj => ?_)
  rw [show (7 * i + j) / 7 = i by omega, show (7 * i + j) % 7 = j by omega]
/-! a set's worth, counted bit by bit -/
set_option maxRecDepth 100000 in
set_option maxHeartbeats 400000 in
theorem wth_sm (g : Nat → Int32) (f : Nat → Bool) : ∀ n, wth g f n = sm (fun b => if f b = true then qWor g b else 0) n
  | 0 => rfl
  | n + 1 => by rw [wth, sm, wth_sm g f n]
set_option maxRecDepth 100000 in
set_option maxHeartbeats 400000 in
theorem bit4 : ∀ w, w < 16 → (if nb w 0 then 1 else 0) + 2 * (if nb w 1 then 1 else 0) + 4 * (if nb w 2 then 1 else 0) + 8 * (if nb w 3 then 1 else 0) = w := by decide +kernel
set_option maxRecDepth 100000 in
set_option maxHeartbeats 400000 in
theorem wth_bits (g : Nat → Int32) (f : Nat → Bool) (hw : ∀ b, qWor g b ≤ 9) : ∀ n, wth g f n = pct (fun b => f b && (qWor g b).testBit 0) n + 2 * pct (fun b => f b && (qWor g b).testBit 1) n + 4 * pct (fun b => f b && (qWor g b).testBit 2) n + 8 * pct (fun b => f b && (qWor g b).testBit 3) n
  | 0 => rfl
  | n + 1 => by
    have h1 := bit4 (qWor g n) (by have := hw n; omega)
    unfold nb at h1
    rw [wth, wth_bits g f hw n]
    simp only [pct]
    by_cases hfn : f n = true
    · simp only [hfn, Bool.true_and, if_true]
      omega
    · simp only [Bool.not_eq_true] at hfn
      simp [hfn]
