/-! literals, comparisons, reading and writing: what decides a step by the facts at hand -/
theorem li_0 : (0 : Int32) = nI 0 := by rfl
theorem li_1 : (1 : Int32) = nI 1 := by rfl
theorem li_2 : (2 : Int32) = nI 2 := by rfl
theorem li_3 : (3 : Int32) = nI 3 := by rfl
theorem li_4 : (4 : Int32) = nI 4 := by rfl
theorem li_5 : (5 : Int32) = nI 5 := by rfl
theorem li_6 : (6 : Int32) = nI 6 := by rfl
theorem li_7 : (7 : Int32) = nI 7 := by rfl
theorem li_8 : (8 : Int32) = nI 8 := by rfl
theorem li_10 : (10 : Int32) = nI 10 := by rfl
theorem li_11 : (11 : Int32) = nI 11 := by rfl
theorem li_12 : (12 : Int32) = nI 12 := by rfl
theorem li_13 : (13 : Int32) = nI 13 := by rfl
theorem li_14 : (14 : Int32) = nI 14 := by rfl
theorem li_16 : (16 : Int32) = nI 16 := by rfl
theorem li_20 : (20 : Int32) = nI 20 := by rfl
theorem li_21 : (21 : Int32) = nI 21 := by rfl
theorem li_22 : (22 : Int32) = nI 22 := by rfl
theorem li_23 : (23 : Int32) = nI 23 := by rfl
theorem li_24 : (24 : Int32) = nI 24 := by rfl
theorem li_26 : (26 : Int32) = nI 26 := by rfl
theorem li_32 : (32 : Int32) = nI 32 := by rfl
theorem li_40 : (40 : Int32) = nI 40 := by rfl
theorem li_42 : (42 : Int32) = nI 42 := by rfl
theorem li_46 : (46 : Int32) = nI 46 := by rfl
theorem li_48 : (48 : Int32) = nI 48 := by rfl
theorem li_56 : (56 : Int32) = nI 56 := by rfl
theorem li_57 : (57 : Int32) = nI 57 := by rfl
theorem li_59 : (59 : Int32) = nI 59 := by rfl
theorem li_64 : (64 : Int32) = nI 64 := by rfl
theorem li_72 : (72 : Int32) = nI 72 := by rfl
theorem li_97 : (97 : Int32) = nI 97 := by rfl
theorem li_100 : (100 : Int32) = nI 100 := by rfl
theorem li_102 : (102 : Int32) = nI 102 := by rfl
theorem li_106 : (106 : Int32) = nI 106 := by rfl
theorem li_110 : (110 : Int32) = nI 110 := by rfl
theorem li_119 : (119 : Int32) = nI 119 := by rfl
theorem li_122 : (122 : Int32) = nI 122 := by rfl
theorem li_127 : (127 : Int32) = nI 127 := by rfl
theorem li_194 : (194 : Int32) = nI 194 := by rfl
theorem li_224 : (224 : Int32) = nI 224 := by rfl
theorem li_255 : (255 : Int32) = nI 255 := by rfl
theorem li_300 : (300 : Int32) = nI 300 := by rfl
theorem li_320 : (320 : Int32) = nI 320 := by rfl
theorem li_388 : (388 : Int32) = nI 388 := by rfl
theorem li_500 : (500 : Int32) = nI 500 := by rfl
theorem li_832 : (832 : Int32) = nI 832 := by rfl
theorem li_1000 : (1000 : Int32) = nI 1000 := by rfl
theorem ll_0 : (0 : Int64) = lN 0 := by rfl
theorem ll_1 : (1 : Int64) = lN 1 := by rfl
theorem ll_2 : (2 : Int64) = lN 2 := by rfl
theorem ll_3 : (3 : Int64) = lN 3 := by rfl
theorem ll_5 : (5 : Int64) = lN 5 := by rfl
theorem ll_6 : (6 : Int64) = lN 6 := by rfl
theorem ll_7 : (7 : Int64) = lN 7 := by rfl
theorem ll_8 : (8 : Int64) = lN 8 := by rfl
theorem ll_12 : (12 : Int64) = lN 12 := by rfl
theorem ll_20 : (20 : Int64) = lN 20 := by rfl
theorem ll_97 : (97 : Int64) = lN 97 := by rfl
theorem ll_100 : (100 : Int64) = lN 100 := by rfl
theorem ll_106 : (106 : Int64) = lN 106 := by rfl
theorem br_eq {α : Type} (c : Prop) (x y : α) : br c x y = @ite _ c (Classical.propDecidable c) x y := by rfl
def mO : Int32 := -1
theorem li_m1 : (-1 : Int32) = mO := by rfl
theorem ltT {a b : Nat} (h : a < b) (hb : b < 2147483648) : (nI a < nI b) = True := eq_true (nI_lt h hb)
theorem ltF {a b : Nat} (h : b ≤ a) (hb : a < 2147483648) : (nI a < nI b) = False := eq_false (nI_nlt h hb)
theorem leT {a b : Nat} (h : a ≤ b) (hb : b < 2147483648) : (nI a ≤ nI b) = True := eq_true (nI_le h hb)
theorem leF {a b : Nat} (h : b < a) (hb : a < 2147483648) : (nI a ≤ nI b) = False := eq_false (nI_ge h hb)
theorem eqT {a b : Nat} (h : a = b) : (nI a = nI b) = True := eq_true (by rw [h])
theorem eqF {a b : Nat} (h : a ≠ b) (ha : a < 2147483648) (hb : b < 2147483648) : (nI a = nI b) = False := eq_false (fun z => h ((nI_eq ha hb).mp z))
theorem eqmF {a : Nat} (ha : a < 2147483648) : (nI a = mO) = False := eq_false (fun z => by
  have := congrArg Int32.toInt z
  rw [nI_toInt ha, show mO.toInt = -1 from rfl] at this
  omega)
theorem eqmF2 {a : Nat} (ha : a < 2147483648) : (mO = nI a) = False := eq_false (fun z => (eqmF ha).mp z.symm)
theorem mlt {a : Nat} (ha : a < 2147483648) : (mO < nI a) = True := eq_true (by
  rw [Int32.lt_iff_toInt_lt, nI_toInt ha, show mO.toInt = -1 from rfl]; omega)
theorem mle {a : Nat} (ha : a < 2147483648) : (nI a ≤ mO) = False := eq_false (by
  rw [Int32.le_iff_toInt_le, nI_toInt ha, show mO.toInt = -1 from rfl]; omega)
theorem mlt2 {a : Nat} (ha : a < 2147483648) : (nI a < mO) = False := eq_false (by
  rw [Int32.lt_iff_toInt_lt, nI_toInt ha, show mO.toInt = -1 from rfl]; omega)
theorem mle2 {a : Nat} (ha : a < 2147483648) : (mO ≤ nI a) = True := eq_true (by
  rw [Int32.le_iff_toInt_le, nI_toInt ha, show mO.toInt = -1 from rfl]; omega)
theorem lcL (x y : Int64) : (lg_cmp x y < nI 0) = (x < y) := by
  unfold lg_cmp
  apply propext
  by_cases h1 : x > y
  · rw [if_pos h1]
    exact ⟨fun z => absurd z (by decide), fun z => (Int64.lt_irrefl (Int64.lt_trans z h1)).elim⟩
  · rw [if_neg h1]
    by_cases h2 : x = y
    · rw [if_pos h2, h2]
      exact ⟨fun z => absurd z (by decide), fun z => (Int64.lt_irrefl z).elim⟩
    · rw [if_neg h2]
      refine ⟨fun _ => ?_, fun _ => by decide⟩
      rw [Int64.lt_iff_toInt_lt]
      rw [gt_iff_lt, Int64.lt_iff_toInt_lt] at h1
      have h3 : x.toInt ≠ y.toInt := fun z => h2 (Int64.toInt_inj.mp z)
      omega
theorem lcG (x y : Int64) : (nI 0 < lg_cmp x y) = (y < x) := by
  unfold lg_cmp
  apply propext
  by_cases h1 : x > y
  · rw [if_pos h1]
    exact ⟨fun _ => h1, fun _ => by decide⟩
  · rw [if_neg h1]
    by_cases h2 : x = y
    · rw [if_pos h2, h2]
      exact ⟨fun z => absurd z (by decide), fun z => (Int64.lt_irrefl z).elim⟩
    · rw [if_neg h2]
      exact ⟨fun z => absurd z (by decide), fun z => absurd z h1⟩
theorem lcE (x y : Int64) : (lg_cmp x y = nI 0) = (x = y) := by
  unfold lg_cmp
  apply propext
  by_cases h1 : x > y
  · rw [if_pos h1]
    exact ⟨fun z => absurd z (by decide), fun z => (Int64.lt_irrefl (z ▸ h1)).elim⟩
  · rw [if_neg h1]
    by_cases h2 : x = y
    · rw [if_pos h2]
      exact ⟨fun _ => h2, fun _ => by decide⟩
    · rw [if_neg h2]
      exact ⟨fun z => absurd z (by decide), fun z => absurd z h2⟩
theorem llT {a b : Nat} (h : a < b) (hb : b < 9223372036854775808) : (lN a < lN b) = True := eq_true ((pk_lLT (by omega) (by omega)).mpr h)
theorem llF {a b : Nat} (h : b ≤ a) (hb : a < 9223372036854775808) : (lN a < lN b) = False := eq_false (fun z => by have := (pk_lLT (by omega) (by omega)).mp z; omega)
theorem lx0 {x : Int32} (h : x < nI 0) (b : Nat) (hb : b < 2147483648) : (x.toInt64 < lN b) = True := eq_true (by
  rw [Int32.lt_iff_toInt_lt, show (nI 0).toInt = 0 from rfl] at h
  rw [Int64.lt_iff_toInt_lt, Int32.toInt_toInt64, lN_toInt hb]
  omega)
theorem lxg {x : Int32} {b : Nat} (h : nI (b + 1) ≤ x) (hb : b + 1 < 2147483648) : (lN b < x.toInt64) = True := eq_true (by
  rw [Int32.le_iff_toInt_le, nI_toInt hb] at h
  rw [Int64.lt_iff_toInt_lt, Int32.toInt_toInt64, lN_toInt (by omega)]
  omega)
theorem lxf {x : Int32} (h : ¬ x < nI 0) : (x.toInt64 < lN 0) = False := eq_false (by
  rw [Int32.lt_iff_toInt_lt, show (nI 0).toInt = 0 from rfl] at h
  rw [Int64.lt_iff_toInt_lt, Int32.toInt_toInt64, lN_toInt (by omega)]
  omega)
theorem xle {x : Int32} (h : x < nI 0) {a : Nat} (ha : a < 2147483648) : (x ≤ nI a) = True := eq_true (by
  rw [Int32.lt_iff_toInt_lt, show (nI 0).toInt = 0 from rfl] at h
  rw [Int32.le_iff_toInt_le, nI_toInt ha]; omega)
theorem xlt {x : Int32} (h : x < nI 0) {a : Nat} (ha : a < 2147483648) : (x < nI a) = True := eq_true (by
  rw [Int32.lt_iff_toInt_lt, show (nI 0).toInt = 0 from rfl] at h
  rw [Int32.lt_iff_toInt_lt, nI_toInt ha]; omega)
theorem xnl {x : Int32} (h : x < nI 0) {a : Nat} (ha : a < 2147483648) : (nI a ≤ x) = False := eq_false (by
  rw [Int32.lt_iff_toInt_lt, show (nI 0).toInt = 0 from rfl] at h
  rw [Int32.le_iff_toInt_le, nI_toInt ha]; omega)
theorem xnt {x : Int32} (h : x < nI 0) {a : Nat} (ha : a < 2147483648) : (nI a < x) = False := eq_false (by
  rw [Int32.lt_iff_toInt_lt, show (nI 0).toInt = 0 from rfl] at h
  rw [Int32.lt_iff_toInt_lt, nI_toInt ha]; omega)
theorem xgt {x : Int32} {b : Nat} (h : nI (b + 1) ≤ x) (hb : b + 1 < 2147483648) : (x ≤ nI b) = False := eq_false (by
  rw [Int32.le_iff_toInt_le, nI_toInt hb] at h
  rw [Int32.le_iff_toInt_le, nI_toInt (by omega)]; omega)
theorem xgt2 {x : Int32} {b : Nat} (h : nI (b + 1) ≤ x) (hb : b + 1 < 2147483648) : (nI b < x) = True := eq_true (by
  rw [Int32.le_iff_toInt_le, nI_toInt hb] at h
  rw [Int32.lt_iff_toInt_lt, nI_toInt (by omega)]; omega)
theorem xge {x : Int32} {b : Nat} (h : nI b ≤ x) : (x < nI b) = False := eq_false (fun z => by
  rw [Int32.le_iff_toInt_le] at h
  rw [Int32.lt_iff_toInt_lt] at z; omega)
theorem xge0 {x : Int32} (h : ¬ x < nI 0) : (nI 0 ≤ x) = True := eq_true (by
  rw [Int32.lt_iff_toInt_lt] at h
  rw [Int32.le_iff_toInt_le]; omega)
theorem xmo {x : Int32} (h : x < nI 0) {a : Nat} (ha : a < 2147483648) : (x = nI a) = False := eq_false (fun z => by
  rw [z, Int32.lt_iff_toInt_lt, nI_toInt ha, show (nI 0).toInt = 0 from rfl] at h; omega)
/-- from, n: they lie within s -/
def plc (s : Nat) (x n : Int32) : Prop := 0 ≤ x.toInt ∧ 0 ≤ n.toInt ∧ x.toInt + n.toInt ≤ s
theorem nx (x : Int32) : x < nI 0 ∨ ∃ j, j < 2147483648 ∧ x = nI j := by
  by_cases h : x < nI 0
  · exact Or.inl h
  · exact Or.inr (nI_of h)
theorem ltz (x : Int32) : (x < nI 0) = (x.toInt < 0) := by rw [Int32.lt_iff_toInt_lt, show (nI 0).toInt = 0 from rfl]
theorem lez (x : Int32) : (nI 0 ≤ x) = (0 ≤ x.toInt) := by rw [Int32.le_iff_toInt_le, show (nI 0).toInt = 0 from rfl]
theorem sub_toInt {s : Nat} (hs : s ≤ 1000) {n : Int32} (hn : 0 ≤ n.toInt) : (nI s - n).toInt = (s : Int) - n.toInt := by
  have := Int32.toInt_lt n
  rw [Int32.toInt_sub, nI_toInt (by omega)]
  unfold Int.bmod
  simp only
  split <;> omega
theorem i64T (x : Int32) : x.toInt64.toInt = x.toInt := Int32.toInt_toInt64 x
theorem add_toInt (x n : Int32) : (x.toInt64 + n.toInt64).toInt = x.toInt + n.toInt := by
  have := Int32.toInt_lt n
  have := Int32.le_toInt n
  have := Int32.toInt_lt x
  have := Int32.le_toInt x
  rw [Int64.toInt_add, i64T, i64T]
  unfold Int.bmod
  simp only
  split <;> omega
theorem laT {x n : Int32} {s : Nat} (hs : s < 2147483648) (h : (s : Int) < x.toInt + n.toInt) : (nI 0 < lg_cmp (x.toInt64 + n.toInt64) (nI s).toInt64) = True := eq_true (by
  rw [lcG, Int64.lt_iff_toInt_lt, add_toInt, i64T, nI_toInt hs]; exact h)
theorem laF {x n : Int32} {s : Nat} (hs : s < 2147483648) (h : x.toInt + n.toInt ≤ (s : Int)) : (nI 0 < lg_cmp (x.toInt64 + n.toInt64) (nI s).toInt64) = False := eq_false (by
  rw [lcG, Int64.lt_iff_toInt_lt, add_toInt, i64T, nI_toInt hs]; omega)
theorem leG (x y : Int64) : (lg_cmp x y ≤ nI 0) = ¬ (nI 0 < lg_cmp x y) := by
  apply propext
  rw [Int32.le_iff_toInt_le, Int32.lt_iff_toInt_lt]; omega
/-- an int against a bound: below 0, above, or a number -/
theorem ix3 (x : Int32) {n : Nat} (hn : n < 2147483648) : x < nI 0 ∨ (¬ x < nI 0 ∧ nI n ≤ x) ∨ ∃ j, j < n ∧ x = nI j := by
  rcases pk_ix x hn with h | h | h
  · exact Or.inl h
  · refine Or.inr (Or.inl ⟨fun z => ?_, h⟩)
    rw [Int32.lt_iff_toInt_lt, show (nI 0).toInt = 0 from rfl] at z
    rw [Int32.le_iff_toInt_le, nI_toInt hn] at h
    omega
  · exact Or.inr (Or.inr h)
theorem inT {a b : Nat} (h : a < b) (hb : b < 2147483648) : inB (nI a) b = True := eq_true (inB_iff.mpr (vp_in_nI h hb))
theorem cl {a : Nat} (h : a < 2147483648) : (nI a).toNatClampNeg = a := nI_clamp h
theorem sbN {a b : Nat} (h : b ≤ a) : nI a - nI b = nI (a - b) := pk_sub h
theorem adm {a : Nat} (h : 0 < a) : nI a + mO = nI (a - 1) := by
  obtain ⟨b, rfl⟩ : ∃ b, a = b + 1 := ⟨a - 1, by omega⟩
  exact pk_m1 b
theorem mad (a : Nat) : mO + nI (a + 1) = nI a := by
  rw [Int32.add_comm]; exact pk_m1 a
theorem dvN {a d : Nat} (ha : a < 2147483648) (h0 : 0 < d) (hd : d < 2147483648) : nI a / nI d = nI (a / d) := pk_div ha h0 hd
theorem rmN {a d : Nat} (ha : a < 2147483648) (h0 : 0 < d) (hd : d < 2147483648) : nI a - nI (a / d) * nI d = nI (a % d) := by
  rw [← dvN ha h0 hd]; exact pk_rem ha h0 hd
theorem rmN2 {a d : Nat} (ha : a < 2147483648) (h0 : 0 < d) : nI a - nI (a / d * d) = nI (a % d) := by
  rw [sbN (Nat.div_mul_le_self a d)]
  congr 1
  have := Nat.div_add_mod a d
  rw [Nat.mul_comm] at this
  omega
theorem ofN (a : Nat) : Int32.ofNat a = nI a := by rfl
theorem nlI {n : Nat} (h : n < 2147483648) : (nI n).toInt64 = lN n := nI_l h
theorem it_t {α : Type} {i : Decidable True} (a b : α) : @ite α True i a b = a := if_pos trivial
theorem it_f {α : Type} {i : Decidable False} (a b : α) : @ite α False i a b = b := if_neg (fun h => h)
theorem sI_1 (h : aH) (c k : Nat) (v : Int32) (c' k' : Nat) : (sI h c k v).1 c' k' = if c' = c ∧ k' = k then v else h.1 c' k' := by rfl
theorem sI_2 (h : aH) (c k : Nat) (v : Int32) : (sI h c k v).2 = h.2 := by rfl
theorem sL_1 (h : aH) (c k : Nat) (v : Int64) : (sL h c k v).1 = h.1 := by rfl
theorem sL_21 (h : aH) (c k : Nat) (v : Int64) (c' k' : Nat) : (sL h c k v).2.1 c' k' = if c' = c ∧ k' = k then v else h.2.1 c' k' := by rfl
theorem sL_22 (h : aH) (c k : Nat) (v : Int64) : (sL h c k v).2.2 = h.2.2 := by rfl
theorem sR_1 (h : aH) (c k : Nat) (v : Option Nat) : (sR h c k v).1 = h.1 := by rfl
theorem sR_21 (h : aH) (c k : Nat) (v : Option Nat) : (sR h c k v).2.1 = h.2.1 := by rfl
theorem sR_22 (h : aH) (c k : Nat) (v : Option Nat) (c' k' : Nat) : (sR h c k v).2.2 c' k' = if c' = c ∧ k' = k then v else h.2.2 c' k' := by rfl
/-- a whole cell of ints is another -/
def uI (h : aH) (c : Nat) (f : Nat → Int32) : aH := (fun c' k' => if c' = c then f k' else h.1 c' k', h.2)
theorem sI_n {h : aH} {c k : Nat} {v : Int32} {c' k' : Nat} (n : ¬ (c' = c ∧ k' = k)) : (sI h c k v).1 c' k' = h.1 c' k' := if_neg n
theorem sL_n {h : aH} {c k : Nat} {v : Int64} {c' k' : Nat} (n : ¬ (c' = c ∧ k' = k)) : (sL h c k v).2.1 c' k' = h.2.1 c' k' := if_neg n
theorem uI_n {h : aH} {c : Nat} {f : Nat → Int32} {c' k' : Nat} (n : ¬ c' = c) : (uI h c f).1 c' k' = h.1 c' k' := if_neg n
def uL (h : aH) (c : Nat) (f : Nat → Int64) : aH := (h.1, fun c' k' => if c' = c then f k' else h.2.1 c' k', h.2.2)
theorem uI_1 (h : aH) (c : Nat) (f : Nat → Int32) (c' k' : Nat) : (uI h c f).1 c' k' = if c' = c then f k' else h.1 c' k' := by rfl
theorem uI_2 (h : aH) (c : Nat) (f : Nat → Int32) : (uI h c f).2 = h.2 := by rfl
theorem uL_1 (h : aH) (c : Nat) (f : Nat → Int64) : (uL h c f).1 = h.1 := by rfl
theorem uL_21 (h : aH) (c : Nat) (f : Nat → Int64) (c' k' : Nat) : (uL h c f).2.1 c' k' = if c' = c then f k' else h.2.1 c' k' := by rfl
theorem uL_22 (h : aH) (c : Nat) (f : Nat → Int64) : (uL h c f).2.2 = h.2.2 := by rfl
theorem uL_n {h : aH} {c : Nat} {f : Nat → Int64} {c' k' : Nat} (n : ¬ c' = c) : (uL h c f).2.1 c' k' = h.2.1 c' k' := if_neg n
theorem uI_id (h : aH) (c : Nat) : uI h c (h.1 c) = h := by
  unfold uI
  refine Prod.ext ?_ rfl
  funext c' k'
  dsimp only
  by_cases e : c' = c
  · rw [if_pos e, e]
  · rw [if_neg e]
theorem uL_id (h : aH) (c : Nat) : uL h c (h.2.1 c) = h := by
  unfold uL
  refine Prod.ext rfl (Prod.ext ?_ rfl)
  funext c' k'
  dsimp only
  by_cases e : c' = c
  · rw [if_pos e, e]
  · rw [if_neg e]
theorem uI_eq {h : aH} {c : Nat} {f : Nat → Int32} (e : ∀ k, f k = h.1 c k) : uI h c f = h := by
  rw [show f = h.1 c from funext e, uI_id]
theorem uL_eq {h : aH} {c : Nat} {f : Nat → Int64} (e : ∀ k, f k = h.2.1 c k) : uL h c f = h := by
  rw [show f = h.2.1 c from funext e, uL_id]
theorem sI_u (h : aH) (c k : Nat) (v : Int32) : sI h c k v = uI h c (fun j => if j = k then v else h.1 c j) := by
  unfold uI sI
  refine Prod.ext ?_ rfl
  funext c' k'
  dsimp only
  by_cases e : c' = c
  · subst e
    rw [if_pos rfl]
    by_cases e2 : k' = k
    · rw [if_pos ⟨rfl, e2⟩, if_pos e2]
    · rw [if_neg (fun z => e2 z.2), if_neg e2]
  · rw [if_neg e, if_neg (fun z => e z.1)]
theorem sL_u (h : aH) (c k : Nat) (v : Int64) : sL h c k v = uL h c (fun j => if j = k then v else h.2.1 c j) := by
  unfold uL sL
  refine Prod.ext rfl (Prod.ext ?_ rfl)
  funext c' k'
  dsimp only
  by_cases e : c' = c
  · subst e
    rw [if_pos rfl]
    by_cases e2 : k' = k
    · rw [if_pos ⟨rfl, e2⟩, if_pos e2]
    · rw [if_neg (fun z => e2 z.2), if_neg e2]
  · rw [if_neg e, if_neg (fun z => e z.1)]
theorem uI_uI (h : aH) (c : Nat) (f g : Nat → Int32) : uI (uI h c f) c g = uI h c g := by
  unfold uI
  refine Prod.ext ?_ rfl
  funext c' k'
  dsimp only
  by_cases e : c' = c
  · rw [if_pos e, if_pos e]
  · rw [if_neg e, if_neg e, if_neg e]
theorem uL_uL (h : aH) (c : Nat) (f g : Nat → Int64) : uL (uL h c f) c g = uL h c g := by
  unfold uL
  refine Prod.ext rfl (Prod.ext ?_ rfl)
  funext c' k'
  dsimp only
  by_cases e : c' = c
  · rw [if_pos e, if_pos e]
  · rw [if_neg e, if_neg e, if_neg e]
theorem uI_ext {h : aH} {c : Nat} {f g : Nat → Int32} (e : ∀ k, f k = g k) : uI h c f = uI h c g := by rw [funext e]
theorem uL_ext {h : aH} {c : Nat} {f g : Nat → Int64} (e : ∀ k, f k = g k) : uL h c f = uL h c g := by rw [funext e]
theorem uI_sI {h : aH} {c k : Nat} {v : Int32} {f g : Nat → Int32} (e : ∀ j, f j = g j) : uI (sI h c k v) c f = uI h c g := by
  rw [sI_u, uI_uI, funext e]
theorem uL_sL {h : aH} {c k : Nat} {v : Int64} {f g : Nat → Int64} (e : ∀ j, f j = g j) : uL (sL h c k v) c f = uL h c g := by
  rw [sL_u, uL_uL, funext e]
/-- the rows' cells -/
theorem fRow {L r : Nat} (h : r < 8) : aF (S0 L) 9 r = some (40 + 2 * r) := by
  rcases (show r = 0 ∨ r = 1 ∨ r = 2 ∨ r = 3 ∨ r = 4 ∨ r = 5 ∨ r = 6 ∨ r = 7 by omega) with rfl | rfl | rfl | rfl | rfl | rfl | rfl | rfl <;> rfl
theorem kRow {L r : Nat} (h : r < 8) : aK (S0 L) (40 + 2 * r) = 6 := by
  rcases (show r = 0 ∨ r = 1 ∨ r = 2 ∨ r = 3 ∨ r = 4 ∨ r = 5 ∨ r = 6 ∨ r = 7 by omega) with rfl | rfl | rfl | rfl | rfl | rfl | rfl | rfl <;> rfl
theorem fItm {L r : Nat} (h : r < 8) : aF (S0 L) (40 + 2 * r) 0 = some (41 + 2 * r) := by
  rcases (show r = 0 ∨ r = 1 ∨ r = 2 ∨ r = 3 ∨ r = 4 ∨ r = 5 ∨ r = 6 ∨ r = 7 by omega) with rfl | rfl | rfl | rfl | rfl | rfl | rfl | rfl <;> rfl
theorem kItm {L r : Nat} (h : r < 8) : aK (S0 L) (41 + 2 * r) = 100 := by
  rcases (show r = 0 ∨ r = 1 ∨ r = 2 ∨ r = 3 ∨ r = 4 ∨ r = 5 ∨ r = 6 ∨ r = 7 by omega) with rfl | rfl | rfl | rfl | rfl | rfl | rfl | rfl <;> rfl
theorem lItm {L r : Nat} (h : r < 8) : aL (S0 L) (41 + 2 * r) = 40 := by
  rcases (show r = 0 ∨ r = 1 ∨ r = 2 ∨ r = 3 ∨ r = 4 ∨ r = 5 ∨ r = 6 ∨ r = 7 by omega) with rfl | rfl | rfl | rfl | rfl | rfl | rfl | rfl <;> rfl
theorem bo1 : vp_nar .boolean (nI 1) = nI 1 := by decide +kernel
theorem bo0 : vp_nar .boolean (nI 0) = nI 0 := by decide +kernel

