/-! the law's loop -/
theorem i_sub {a b : Nat} (ha : a < 2 ^ 30) (hb : b < 2 ^ 30) : (nI a - nI b).toInt = (a : Int) - b := by
  rw [Int32.toInt_sub, nI_toInt (by omega), nI_toInt (by omega)]
  unfold Int.bmod
  have : (a : Int) < 2 ^ 30 := by omega
  have : (b : Int) < 2 ^ 30 := by omega
  simp only
  split <;> omega
theorem i_sub_lt {a b c : Nat} (ha : a < 2 ^ 30) (hb : b < 2 ^ 30) (hc : c < 2 ^ 30) : (nI a - nI b < nI c) ↔ a < b + c := by
  rw [Int32.lt_iff_toInt_lt, i_sub ha hb, nI_toInt (by omega)]
  omega
theorem and_lt (x : Int32) {m : Nat} (hm : m < 2 ^ 31) : ∃ k, k ≤ m ∧ x &&& nI m = nI k := by
  refine ⟨(x &&& nI m).toBitVec.toNat, ?_, ?_⟩
  · rw [Int32.toBitVec_and, BitVec.toNat_and]
    have e : (nI m).toBitVec.toNat = m := by
      show (BitVec.ofNat 32 m).toNat = m
      rw [BitVec.toNat_ofNat, Nat.mod_eq_of_lt (by omega)]
    rw [e]
    exact Nat.and_le_right
  · apply Int32.toBitVec_inj.mp
    show _ = BitVec.ofNat 32 _
    rw [BitVec.ofNat_toNat, BitVec.setWidth_eq]
theorem sw_0 (ls st : List Value) (S : aS) (h : aH) : ev 1000 218 33 ls (.int 0 :: st) S h = ev 1000 218 156 ls st S h := (u218_33 1000 ls 0 st S h).trans (br_neg (by decide) _ _)
theorem sw_1 (ls st : List Value) (S : aS) (h : aH) : ev 1000 218 33 ls (.int 1 :: st) S h = ev 1000 218 199 ls st S h := (u218_33 1000 ls 1 st S h).trans (br_neg (by decide) _ _)
theorem sw_2 (ls st : List Value) (S : aS) (h : aH) : ev 1000 218 33 ls (.int 2 :: st) S h = ev 1000 218 242 ls st S h := (u218_33 1000 ls 2 st S h).trans (br_neg (by decide) _ _)
theorem sw_3 (ls st : List Value) (S : aS) (h : aH) : ev 1000 218 33 ls (.int 3 :: st) S h = ev 1000 218 305 ls st S h := (u218_33 1000 ls 3 st S h).trans (br_neg (by decide) _ _)
theorem sw_4 (ls st : List Value) (S : aS) (h : aH) : ev 1000 218 33 ls (.int 4 :: st) S h = ev 1000 218 328 ls st S h := (u218_33 1000 ls 4 st S h).trans (br_neg (by decide) _ _)
theorem sw_5 (ls st : List Value) (S : aS) (h : aH) : ev 1000 218 33 ls (.int 5 :: st) S h = ev 1000 218 391 ls st S h := (u218_33 1000 ls 5 st S h).trans (br_neg (by decide) _ _)
theorem sw_6 (ls st : List Value) (S : aS) (h : aH) : ev 1000 218 33 ls (.int 6 :: st) S h = ev 1000 218 404 ls st S h := (u218_33 1000 ls 6 st S h).trans (br_neg (by decide) _ _)
theorem sw_7 (ls st : List Value) (S : aS) (h : aH) : ev 1000 218 33 ls (.int 7 :: st) S h = ev 1000 218 417 ls st S h := (u218_33 1000 ls 7 st S h).trans (br_neg (by decide) _ _)
theorem sw_8 (ls st : List Value) (S : aS) (h : aH) : ev 1000 218 33 ls (.int 8 :: st) S h = ev 1000 218 450 ls st S h := (u218_33 1000 ls 8 st S h).trans (br_neg (by decide) _ _)
theorem sw_9 (ls st : List Value) (S : aS) (h : aH) : ev 1000 218 33 ls (.int 9 :: st) S h = ev 1000 218 503 ls st S h := (u218_33 1000 ls 9 st S h).trans (br_neg (by decide) _ _)
theorem sw_10 (ls st : List Value) (S : aS) (h : aH) : ev 1000 218 33 ls (.int 10 :: st) S h = ev 1000 218 556 ls st S h := (u218_33 1000 ls 10 st S h).trans (br_neg (by decide) _ _)
theorem sw_11 (ls st : List Value) (S : aS) (h : aH) : ev 1000 218 33 ls (.int 11 :: st) S h = ev 1000 218 579 ls st S h := (u218_33 1000 ls 11 st S h).trans (br_neg (by decide) _ _)
theorem sw_12 (ls st : List Value) (S : aS) (h : aH) : ev 1000 218 33 ls (.int 12 :: st) S h = ev 1000 218 612 ls st S h := (u218_33 1000 ls 12 st S h).trans (br_neg (by decide) _ _)
theorem sw_13 (ls st : List Value) (S : aS) (h : aH) : ev 1000 218 33 ls (.int 13 :: st) S h = ev 1000 218 635 ls st S h := (u218_33 1000 ls 13 st S h).trans (br_neg (by decide) _ _)
theorem sw_14 (ls st : List Value) (S : aS) (h : aH) : ev 1000 218 33 ls (.int 14 :: st) S h = ev 1000 218 678 ls st S h := (u218_33 1000 ls 14 st S h).trans (br_neg (by decide) _ _)
theorem sw_15 (ls st : List Value) (S : aS) (h : aH) : ev 1000 218 33 ls (.int 15 :: st) S h = ev 1000 218 701 ls st S h := (u218_33 1000 ls 15 st S h).trans (br_neg (by decide) _ _)
theorem sw_16 (ls st : List Value) (S : aS) (h : aH) : ev 1000 218 33 ls (.int 16 :: st) S h = ev 1000 218 724 ls st S h := (u218_33 1000 ls 16 st S h).trans (br_neg (by decide) _ _)
theorem sw_17 (ls st : List Value) (S : aS) (h : aH) : ev 1000 218 33 ls (.int 17 :: st) S h = ev 1000 218 767 ls st S h := (u218_33 1000 ls 17 st S h).trans (br_neg (by decide) _ _)
theorem sw_18 (ls st : List Value) (S : aS) (h : aH) : ev 1000 218 33 ls (.int 18 :: st) S h = ev 1000 218 800 ls st S h := (u218_33 1000 ls 18 st S h).trans (br_neg (by decide) _ _)
theorem sw_19 (ls st : List Value) (S : aS) (h : aH) : ev 1000 218 33 ls (.int 19 :: st) S h = ev 1000 218 853 ls st S h := (u218_33 1000 ls 19 st S h).trans (br_neg (by decide) _ _)
theorem sw_20 (ls st : List Value) (S : aS) (h : aH) : ev 1000 218 33 ls (.int 20 :: st) S h = ev 1000 218 876 ls st S h := (u218_33 1000 ls 20 st S h).trans (br_neg (by decide) _ _)
theorem sw_21 (ls st : List Value) (S : aS) (h : aH) : ev 1000 218 33 ls (.int 21 :: st) S h = ev 1000 218 899 ls st S h := (u218_33 1000 ls 21 st S h).trans (br_neg (by decide) _ _)
theorem sw_22 (ls st : List Value) (S : aS) (h : aH) : ev 1000 218 33 ls (.int 22 :: st) S h = ev 1000 218 922 ls st S h := (u218_33 1000 ls 22 st S h).trans (br_neg (by decide) _ _)
theorem sw_23 (ls st : List Value) (S : aS) (h : aH) : ev 1000 218 33 ls (.int 23 :: st) S h = ev 1000 218 955 ls st S h := (u218_33 1000 ls 23 st S h).trans (br_neg (by decide) _ _)
theorem sw_24 (ls st : List Value) (S : aS) (h : aH) : ev 1000 218 33 ls (.int 24 :: st) S h = ev 1000 218 988 ls st S h := (u218_33 1000 ls 24 st S h).trans (br_neg (by decide) _ _)
theorem sw_25 (ls st : List Value) (S : aS) (h : aH) : ev 1000 218 33 ls (.int 25 :: st) S h = ev 1000 218 1011 ls st S h := (u218_33 1000 ls 25 st S h).trans (br_neg (by decide) _ _)
theorem sw_26 (ls st : List Value) (S : aS) (h : aH) : ev 1000 218 33 ls (.int 26 :: st) S h = ev 1000 218 1034 ls st S h := (u218_33 1000 ls 26 st S h).trans (br_neg (by decide) _ _)
theorem sw_27 (ls st : List Value) (S : aS) (h : aH) : ev 1000 218 33 ls (.int 27 :: st) S h = ev 1000 218 1047 ls st S h := (u218_33 1000 ls 27 st S h).trans (br_pos (by decide) _ _)
theorem sw_28 (ls st : List Value) (S : aS) (h : aH) : ev 1000 218 33 ls (.int 28 :: st) S h = ev 1000 218 1047 ls st S h := (u218_33 1000 ls 28 st S h).trans (br_pos (by decide) _ _)
theorem sw_29 (ls st : List Value) (S : aS) (h : aH) : ev 1000 218 33 ls (.int 29 :: st) S h = ev 1000 218 1047 ls st S h := (u218_33 1000 ls 29 st S h).trans (br_pos (by decide) _ _)
theorem sw_30 (ls st : List Value) (S : aS) (h : aH) : ev 1000 218 33 ls (.int 30 :: st) S h = ev 1000 218 1047 ls st S h := (u218_33 1000 ls 30 st S h).trans (br_pos (by decide) _ _)
theorem sw_31 (ls st : List Value) (S : aS) (h : aH) : ev 1000 218 33 ls (.int 31 :: st) S h = ev 1000 218 1047 ls st S h := (u218_33 1000 ls 31 st S h).trans (br_pos (by decide) _ _)
def lawAll (L : Nat) (I : aH → Prop) : Prop := (∀ f : Nat → Int32, lawStp L 82 134 I [.int (f 1), .int (f 2), .int (f 3)]) ∧ (∀ f : Nat → Int32, lawStp L 83 135 I [.int (f 1), .int (f 2), .int (f 3)]) ∧ (∀ f : Nat → Int32, lawStp L 84 136 I [.int (f 1), .int (f 2), .int (f 3), .int (f 4), .int (f 5)]) ∧ (∀ f : Nat → Int32, lawStp L 85 137 I [.int (f 1)]) ∧ (∀ f : Nat → Int32, lawStp L 86 138 I [.long ((f 1).toInt64 <<< ((32 : Int32).toInt64 &&& 63) ||| (f 2).toInt64 &&& 4294967295), .int (f 3)]) ∧ (∀ f : Nat → Int32, lawStp L 87 156 I []) ∧ (∀ f : Nat → Int32, lawStp L 88 157 I []) ∧ (∀ f : Nat → Int32, lawStp L 89 168 I [.int (f 1), .int (f 2)]) ∧ (∀ f : Nat → Int32, lawStp L 90 174 I [.int (f 1), .int (f 2), .int (f 3), .int (f 4)]) ∧ (∀ f : Nat → Int32, lawStp L 91 176 I [.int (f 1), .int (f 2), .int (f 3), .int (f 4)]) ∧ (∀ f : Nat → Int32, lawStp L 92 178 I [.int (f 1)]) ∧ (∀ f : Nat → Int32, lawStp L 93 179 I [.int (f 1), .int (f 2)]) ∧ (∀ f : Nat → Int32, lawStp L 94 180 I [.int (f 1)]) ∧ (∀ f : Nat → Int32, lawStp L 95 187 I [.int (f 1), .int (f 2), .int (f 3)]) ∧ (∀ f : Nat → Int32, lawStp L 96 190 I [.int (f 1)]) ∧ (∀ f : Nat → Int32, lawStp L 97 191 I [.int (f 1)]) ∧ (∀ f : Nat → Int32, lawStp L 98 192 I [.int (f 1), .int (f 2), .int (f 3)]) ∧ (∀ f : Nat → Int32, lawStp L 99 193 I [.int (f 1), .int (f 2)]) ∧ (∀ f : Nat → Int32, lawStp L 100 195 I [.int (f 1), .int (f 2), .int (f 3), .int (f 4)]) ∧ (∀ f : Nat → Int32, lawStp L 101 196 I [.int (f 1)]) ∧ (∀ f : Nat → Int32, lawStp L 102 197 I [.int (f 1)]) ∧ (∀ f : Nat → Int32, lawStp L 103 200 I [.int (f 1)]) ∧ (∀ f : Nat → Int32, lawStp L 104 201 I [.int (f 1), .int (f 2)]) ∧ (∀ f : Nat → Int32, lawStp L 105 206 I [.int (f 1), .int (f 2)]) ∧ (∀ f : Nat → Int32, lawStp L 106 207 I [.int (f 1)]) ∧ (∀ f : Nat → Int32, lawStp L 107 208 I [.int (f 1)]) ∧ (∀ f : Nat → Int32, lawStp L 108 209 I [])
set_option maxHeartbeats 4000000 in
set_option maxRecDepth 100000 in
theorem law_one {L a : Nat} (hb : a + 6 ≤ L) (hL : L ≤ 3072) (I : aH → Prop) (hall : lawAll L I) (h : aH) (hI : I h) : ∃ h2, I h2 ∧ ev 1000 218 33 [.ref 0, .ref 8, .ref 68, .int (nI a)] [.int (h.1 0 a &&& 31)] (S0 L) h = ev 1000 218 1047 [.ref 0, .ref 8, .ref 68, .int (nI a)] [] (S0 L) h2 := by
  obtain ⟨k, hk, e⟩ := and_lt (h.1 0 a) (m := 31) (by decide)
  rw [show (31 : Int32) = nI 31 from rfl, e]
  obtain ⟨s0, s1, s2, s3, s4, s5, s6, s7, s8, s9, s10, s11, s12, s13, s14, s15, s16, s17, s18, s19, s20, s21, s22, s23, s24, s25, s26⟩ := hall
  match k, hk with
  | 0, _ =>
    obtain ⟨h2, i2, -, e2⟩ := law_c0 hb hL I s0 h hI
    exact ⟨h2, i2, (sw_0 _ _ _ _).trans e2⟩
  | 1, _ =>
    obtain ⟨h2, i2, -, e2⟩ := law_c1 hb hL I s1 h hI
    exact ⟨h2, i2, (sw_1 _ _ _ _).trans e2⟩
  | 2, _ =>
    obtain ⟨h2, i2, -, e2⟩ := law_c2 hb hL I s2 h hI
    exact ⟨h2, i2, (sw_2 _ _ _ _).trans e2⟩
  | 3, _ =>
    obtain ⟨h2, i2, -, e2⟩ := law_c3 hb hL I s3 h hI
    exact ⟨h2, i2, (sw_3 _ _ _ _).trans e2⟩
  | 4, _ =>
    obtain ⟨h2, i2, -, e2⟩ := law_c4 hb hL I s4 h hI
    exact ⟨h2, i2, (sw_4 _ _ _ _).trans e2⟩
  | 5, _ =>
    obtain ⟨h2, i2, -, e2⟩ := law_c5 hb hL I s5 h hI
    exact ⟨h2, i2, (sw_5 _ _ _ _).trans e2⟩
  | 6, _ =>
    obtain ⟨h2, i2, -, e2⟩ := law_c6 hb hL I s6 h hI
    exact ⟨h2, i2, (sw_6 _ _ _ _).trans e2⟩
  | 7, _ =>
    obtain ⟨h2, i2, -, e2⟩ := law_c7 hb hL I s7 h hI
    exact ⟨h2, i2, (sw_7 _ _ _ _).trans e2⟩
  | 8, _ =>
    obtain ⟨h2, i2, -, e2⟩ := law_c8 hb hL I s8 h hI
    exact ⟨h2, i2, (sw_8 _ _ _ _).trans e2⟩
  | 9, _ =>
    obtain ⟨h2, i2, -, e2⟩ := law_c9 hb hL I s9 h hI
    exact ⟨h2, i2, (sw_9 _ _ _ _).trans e2⟩
  | 10, _ =>
    obtain ⟨h2, i2, -, e2⟩ := law_c10 hb hL I s10 h hI
    exact ⟨h2, i2, (sw_10 _ _ _ _).trans e2⟩
  | 11, _ =>
    obtain ⟨h2, i2, -, e2⟩ := law_c11 hb hL I s11 h hI
    exact ⟨h2, i2, (sw_11 _ _ _ _).trans e2⟩
  | 12, _ =>
    obtain ⟨h2, i2, -, e2⟩ := law_c12 hb hL I s12 h hI
    exact ⟨h2, i2, (sw_12 _ _ _ _).trans e2⟩
  | 13, _ =>
    obtain ⟨h2, i2, -, e2⟩ := law_c13 hb hL I s13 h hI
    exact ⟨h2, i2, (sw_13 _ _ _ _).trans e2⟩
  | 14, _ =>
    obtain ⟨h2, i2, -, e2⟩ := law_c14 hb hL I s14 h hI
    exact ⟨h2, i2, (sw_14 _ _ _ _).trans e2⟩
  | 15, _ =>
    obtain ⟨h2, i2, -, e2⟩ := law_c15 hb hL I s15 h hI
    exact ⟨h2, i2, (sw_15 _ _ _ _).trans e2⟩
  | 16, _ =>
    obtain ⟨h2, i2, -, e2⟩ := law_c16 hb hL I s16 h hI
    exact ⟨h2, i2, (sw_16 _ _ _ _).trans e2⟩
  | 17, _ =>
    obtain ⟨h2, i2, -, e2⟩ := law_c17 hb hL I s17 h hI
    exact ⟨h2, i2, (sw_17 _ _ _ _).trans e2⟩
  | 18, _ =>
    obtain ⟨h2, i2, -, e2⟩ := law_c18 hb hL I s18 h hI
    exact ⟨h2, i2, (sw_18 _ _ _ _).trans e2⟩
  | 19, _ =>
    obtain ⟨h2, i2, -, e2⟩ := law_c19 hb hL I s19 h hI
    exact ⟨h2, i2, (sw_19 _ _ _ _).trans e2⟩
  | 20, _ =>
    obtain ⟨h2, i2, -, e2⟩ := law_c20 hb hL I s20 h hI
    exact ⟨h2, i2, (sw_20 _ _ _ _).trans e2⟩
  | 21, _ =>
    obtain ⟨h2, i2, -, e2⟩ := law_c21 hb hL I s21 h hI
    exact ⟨h2, i2, (sw_21 _ _ _ _).trans e2⟩
  | 22, _ =>
    obtain ⟨h2, i2, -, e2⟩ := law_c22 hb hL I s22 h hI
    exact ⟨h2, i2, (sw_22 _ _ _ _).trans e2⟩
  | 23, _ =>
    obtain ⟨h2, i2, -, e2⟩ := law_c23 hb hL I s23 h hI
    exact ⟨h2, i2, (sw_23 _ _ _ _).trans e2⟩
  | 24, _ =>
    obtain ⟨h2, i2, -, e2⟩ := law_c24 hb hL I s24 h hI
    exact ⟨h2, i2, (sw_24 _ _ _ _).trans e2⟩
  | 25, _ =>
    obtain ⟨h2, i2, -, e2⟩ := law_c25 hb hL I s25 h hI
    exact ⟨h2, i2, (sw_25 _ _ _ _).trans e2⟩
  | 26, _ =>
    obtain ⟨h2, i2, -, e2⟩ := law_c26 hb hL I s26 h hI
    exact ⟨h2, i2, (sw_26 _ _ _ _).trans e2⟩
  | 27, _ => exact ⟨h, hI, sw_27 _ _ _ _⟩
  | 28, _ => exact ⟨h, hI, sw_28 _ _ _ _⟩
  | 29, _ => exact ⟨h, hI, sw_29 _ _ _ _⟩
  | 30, _ => exact ⟨h, hI, sw_30 _ _ _ _⟩
  | 31, _ => exact ⟨h, hI, sw_31 _ _ _ _⟩
  | k + 32, hk => omega
set_option maxHeartbeats 4000000 in
set_option maxRecDepth 100000 in
theorem law_loop {L : Nat} (hL : L ≤ 3072) (I : aH → Prop) (hall : lawAll L I) : ∀ (n a : Nat), L - a ≤ n → a ≤ L + 6 → ∀ h, I h → ∃ h', ev 1000 218 18 [.ref 0, .ref 8, .ref 68, .int (nI a)] [] (S0 L) h = some (some (.int 1), S0 L, h') := by
  intro n
  induction n with
  | zero =>
    intro a ha ha2 h hI
    refine ⟨h, ?_⟩
    have e : (nI L - 6 < nI a) := (i_sub_lt (a := L) (b := 6) (c := a) (by omega) (by omega) (by omega)).mpr (by omega)
    rw [u218_18, u218_19, u218_20, gd_pos (by rw [kS0]; decide), u218_21, u218_23, lS0, u218_24]
    show br (nI L - 6 < nI a) _ _ = _
    rw [br_pos e, u218_1053, u218_1054, gd_pos (by decide +kernel)]
  | succ n ih =>
    intro a ha ha2 h hI
    rw [u218_18, u218_19, u218_20, gd_pos (by rw [kS0]; decide), u218_21, u218_23, lS0, u218_24]
    show ∃ h', br (nI L - 6 < nI a) _ _ = _
    by_cases hb : a + 6 ≤ L
    · have e : ¬ (nI L - 6 < nI a) := fun z => by have := (i_sub_lt (a := L) (b := 6) (c := a) (by omega) (by omega) (by omega)).mp z; omega
      obtain ⟨h2, i2, e2⟩ := law_one hb hL I hall h hI
      obtain ⟨h', e3⟩ := ih (a + 6) (by omega) (by omega) h2 i2
      refine ⟨h', ?_⟩
      rw [br_neg e, u218_27, u218_28, u218_29, gd_pos (by rw [kS0]; exact Or.inr rfl), gd_pos (by rw [lS0]; exact inB_iff.mpr (vp_in_nI (by omega) (by omega))), nI_clamp (by omega), u218_30, u218_32, e2, u218_1047, u218_1050]
      rw [show lset1 [Value.ref 0, Value.ref 8, Value.ref 68, Value.int (nI a)] 3 (Value.int (nI a + 6)) = [Value.ref 0, Value.ref 8, Value.ref 68, Value.int (nI (a + 6))] by rw [← nI_add]; rfl]
      exact e3
    · have e : (nI L - 6 < nI a) := (i_sub_lt (a := L) (b := 6) (c := a) (by omega) (by omega) (by omega)).mpr (by omega)
      refine ⟨h, ?_⟩
      rw [br_pos e, u218_1053, u218_1054, gd_pos (by decide +kernel)]
theorem law_done {L : Nat} (hL : L ≤ 3072) (I : aH → Prop) (hall : lawAll L I) (xs : Nat → Int32) (h0 : I (hm xs)) : ∃ h', ev 1000 218 0 [.ref 0, .null, .null, .null] [] (oldS L) (hB0 xs) = some (some (.int 1), S0 L, h') := by
  obtain ⟨h', e⟩ := law_loop hL I hall L 0 (by omega) (by omega) (hm xs) h0
  exact ⟨h', (law_ctor L xs).trans e⟩
