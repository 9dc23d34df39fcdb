/-! numbers of the tape -/
set_option maxRecDepth 100000 in
set_option maxHeartbeats 400000 in
theorem runT_all (f : Nat → Bool) (T : Nat → Nat) : ∀ (k p j : Nat), p ≤ j → j < runT f T k p → f (T j) = true
  | 0, p, j, h1, h2 => by unfold runT at h2; omega
  | k + 1, p, j, h1, h2 => by
    unfold runT at h2
    by_cases q : f (T p) = true
    · rw [if_pos q] at h2
      by_cases z : j = p
      · rw [z]; exact q
      · exact runT_all f T k (p + 1) j (by omega) h2
    · rw [if_neg q] at h2; omega
def numv (T : Nat → Nat) (s : Nat) : Nat → Nat
  | 0 => 0
  | k + 1 => 10 * numv T s k + T (s + k) - 48
set_option maxRecDepth 100000 in
set_option maxHeartbeats 400000 in
theorem sb_lo {b : Nat} (hb : b < 128) : sb b = nI b := (show ∀ b : Fin 128, sb b.1 = nI b.1 by decide +kernel) ⟨b, hb⟩
set_option maxRecDepth 100000 in
set_option maxHeartbeats 400000 in
theorem fi_b {b : Nat} (h : isFi b = true) : 48 ≤ b ∧ b ≤ 57 := by
  unfold isFi at h
  rw [Bool.and_eq_true, decide_eq_true_iff, decide_eq_true_iff] at h
  exact h
set_option maxRecDepth 100000 in
set_option maxHeartbeats 400000 in
theorem le_b {b : Nat} (h : isLe b = true) : 97 ≤ b ∧ b ≤ 122 := by
  unfold isLe at h
  rw [Bool.and_eq_true, decide_eq_true_iff, decide_eq_true_iff] at h
  exact h
/-! what a sort says of the word -/
set_option maxRecDepth 100000 in
set_option maxHeartbeats 400000 in
theorem tT_1 {T : Nat → Nat} {n s : Nat} (h : tT T n s = 1) : s < n ∧ s < tE T n s ∧ tE T n s ≤ n ∧ ∀ j, s ≤ j → j < tE T n s → 97 ≤ T j ∧ T j ≤ 122 := by
  unfold tT at h
  by_cases q : n ≤ s
  · rw [if_pos q] at h; omega
  · rw [if_neg q] at h
    by_cases q1 : isLe (T s) = true
    · have et : tE T n s = runT isLe T (n - s) s := by unfold tE; rw [if_neg q, if_pos q1]
      have rl := runT_le isLe T (n - s) s
      rw [et]
      refine ⟨by omega, ?_, by omega, fun j h1 h2 => le_b (runT_all isLe T (n - s) s j h1 h2)⟩
      obtain ⟨m, hm⟩ : ∃ m, n - s = m + 1 := ⟨n - s - 1, by omega⟩
      rw [hm]
      unfold runT
      rw [if_pos q1]
      have := runT_le isLe T m (s + 1)
      omega
    · rw [if_neg q1] at h
      by_cases q2 : isFi (T s) = true
      · rw [if_pos q2] at h; split at h <;> omega
      · rw [if_neg q2] at h; split at h <;> omega
set_option maxRecDepth 100000 in
set_option maxHeartbeats 400000 in
theorem tT_2 {T : Nat → Nat} {n s : Nat} (h : tT T n s = 2) : s < n ∧ s < tE T n s ∧ tE T n s ≤ n ∧ tE T n s ≤ s + 3 ∧ ∀ j, s ≤ j → j < tE T n s → 48 ≤ T j ∧ T j ≤ 57 := by
  unfold tT at h
  by_cases q : n ≤ s
  · rw [if_pos q] at h; omega
  · rw [if_neg q] at h
    by_cases q1 : isLe (T s) = true
    · rw [if_pos q1] at h; omega
    · rw [if_neg q1] at h
      by_cases q2 : isFi (T s) = true
      · rw [if_pos q2] at h
        have et : tE T n s = runT isFi T (n - s) s := by unfold tE; rw [if_neg q, if_neg q1, if_pos q2]
        have rl := runT_le isFi T (n - s) s
        have h3 : tE T n s - s ≤ 3 := by
          by_cases z : tE T n s - s ≤ 3
          · exact z
          · rw [if_neg z] at h; omega
        rw [et] at h3 ⊢
        refine ⟨by omega, ?_, by omega, by omega, fun j h1 h2 => fi_b (runT_all isFi T (n - s) s j h1 h2)⟩
        obtain ⟨m, hm⟩ : ∃ m, n - s = m + 1 := ⟨n - s - 1, by omega⟩
        rw [hm]
        unfold runT
        rw [if_pos q2]
        have := runT_le isFi T m (s + 1)
        omega
      · rw [if_neg q2] at h; split at h <;> omega
set_option maxRecDepth 100000 in
set_option maxHeartbeats 400000 in
theorem tT_4 (T : Nat → Nat) (n s : Nat) : tT T n s ≤ 4 := by
  unfold tT
  split
  · omega
  · split
    · omega
    · split
      · split <;> omega
      · split <;> omega
set_option maxRecDepth 100000 in
set_option maxHeartbeats 400000 in
theorem tE_le {T : Nat → Nat} {n s : Nat} (h : s ≤ n) : s ≤ tE T n s ∧ tE T n s ≤ n := by
  unfold tE
  have r1 := runT_le isLe T (n - s) s
  have r2 := runT_le isFi T (n - s) s
  split
  · omega
  · split
    · omega
    · split <;> omega
set_option maxRecDepth 100000 in
set_option maxHeartbeats 400000 in
theorem tS_le {T : Nat → Nat} {n e : Nat} (h : e ≤ n) : e ≤ tS T n e ∧ tS T n e ≤ n := by
  have := runT_le isSp T (n - e) e
  unfold tS
  omega
set_option maxRecDepth 100000 in
set_option maxHeartbeats 400000 in
theorem numv_le {T : Nat → Nat} {s : Nat} : ∀ k, (∀ j, j < k → 48 ≤ T (s + j) ∧ T (s + j) ≤ 57) → numv T s k < 10 ^ k
  | 0, _ => by show 0 < 1; omega
  | k + 1, h => by
    have := numv_le k (fun j hj => h j (by omega))
    have := h k (by omega)
    rw [Nat.pow_succ]
    unfold numv
    omega
set_option maxRecDepth 100000 in
set_option maxHeartbeats 400000 in
theorem numv_999 {T : Nat → Nat} {s k : Nat} (hk : k ≤ 3) (h : ∀ j, j < k → 48 ≤ T (s + j) ∧ T (s + j) ≤ 57) : numv T s k ≤ 999 := by
  have := numv_le k h
  have : (10 : Nat) ^ k ≤ 10 ^ 3 := Nat.pow_le_pow_right (by omega) hk
  omega
set_option maxRecDepth 100000 in
set_option maxHeartbeats 400000 in
theorem z72 {h : aH} {T : Nat → Nat} {n s e : Nat} (H : TC h T n) (hse : s ≤ e) (hen : e ≤ n) (he3 : e ≤ s + 3) (hf : ∀ j, s ≤ j → j < e → 48 ≤ T j ∧ T j ≤ 57) (h4 : h.1 11 4 = nI e) (L d : Nat) : ∀ (m k : Nat), s + k + m = e → ev d 72 7 [.ref 11, .int (nI (numv T s k)), .int (nI (s + k))] [] (S0 L) h = some (some (.int (nI (numv T s (e - s)))), S0 L, h) := by
  have n3 := H.2.1
  intro m
  induction m with
  | zero =>
    intro k hk
    have : e - s = k := by omega
    rw [this, u72_7]
    simp (disch := first | assumption | omega) only [u72_0, u72_1, u72_2, u72_3, u72_6, u72_8, u72_9, u72_12, u72_15, u72_17, u72_18, u72_19, u72_20, u72_23, u72_24, u72_25, u72_26, u72_28, u72_29, u72_30, u72_33, u72_36, u72_37, ↓br_eq, ↓reduceIte, gd_true, ls_0, ls_1i, ls_1r, ls_1n, ls_1l, ls_2, ls2_eq, List.set_cons_zero, List.set_cons_succ, rf_s, cs_nil, cs_int, cs_ref, cs_long, Option.bind_some, Option.toList_some, Option.toList_none, List.nil_append, List.cons_append, Nat.reduceAdd, Nat.reduceSub, Nat.reduceMul, Nat.reduceLT, Nat.reduceLeDiff, Nat.reduceEqDiff, Int32.reduceAdd, Int32.reduceSub, Int32.reduceMul, Int32.reduceLT, Int32.reduceLE, Int32.reduceToInt, Int32.reduceToNatClampNeg, Int.reduceLE, Int.reduceLT, Int.reduceSub, Int.reduceToNat, and_self, true_and, and_true, or_true, true_or, false_or, or_false, false_and, and_false, not_false_eq_true, not_true_eq_false, eq_self, ↓li_m1, li_0, li_1, li_2, li_3, li_4, li_5, li_6, li_7, li_8, li_10, li_11, li_12, li_13, li_14, li_16, li_20, li_21, li_22, li_23, li_24, li_26, li_32, li_40, li_42, li_46, li_48, li_56, li_57, li_59, li_64, li_72, li_97, li_100, li_102, li_106, li_110, li_119, li_122, li_127, li_194, li_224, li_255, li_300, li_320, li_388, li_500, li_832, li_1000, ltT, ltF, leT, leF, eqT, eqF, eqmF, eqmF2, mlt, mle, mlt2, mle2, inT, cl, sbN, adm, mad, nI_add, pk_mul, dvN, rmN, rmN2, ofN, bo1, bo0, xle, xlt, xnl, xnt, xgt, xgt2, xge, xge0, xmo, dmN, kS0, lS0, kS1, lS1, kS2, lS2, kS3, lS3, kS4, lS4, kS5, lS5, kS6, lS6, kS7, lS7, kS8, fS8_0, fS8_1, fS8_2, fS8_3, fS8_4, fS8_5, fS8_6, fS8_7, fS8_8, fS8_9, kS9, lS9, fS9_0, fS9_1, fS9_2, fS9_3, fS9_4, fS9_5, fS9_6, fS9_7, kS10, fS10_0, fS10_1, kS11, fS11_0, kS12, lS12, kS13, fS13_5, fS13_6, fS13_7, fS13_8, fS13_9, kS14, lS14, kS15, lS15, kS16, lS16, kS17, lS17, kS18, lS18, kS19, fS19_5, fS19_6, fS19_7, fS19_8, fS19_9, kS20, lS20, kS21, lS21, kS22, lS22, kS23, lS23, kS24, lS24, kS25, lS25, fS25_0, fS25_1, kS26, kS27, fS27_3, fS27_4, fS27_5, kS28, lS28, kS29, lS29, kS30, lS30, kS31, fS31_3, fS31_4, kS32, lS32, kS33, lS33, kS34, fS34_3, fS34_4, kS35, lS35, kS36, lS36, kS37, kS38, fS38_0, kS39, lS39, kS40, fS40_0, kS41, lS41, kS42, fS42_0, kS43, lS43, kS44, fS44_0, kS45, lS45, kS46, fS46_0, kS47, lS47, kS48, fS48_0, kS49, lS49, kS50, fS50_0, kS51, lS51, kS52, fS52_0, kS53, lS53, kS54, fS54_0, kS55, lS55, kS56, fS56_5, fS56_6, fS56_7, fS56_8, fS56_9, kS57, lS57, kS58, lS58, kS59, lS59, kS60, lS60, kS61, lS61, kS62, fS62_5, fS62_6, fS62_7, fS62_8, fS62_9, kS63, lS63, kS64, lS64, kS65, lS65, kS66, lS66, kS67, lS67, kS68, fS68_2, fS68_3, fS68_4, fS68_5, fS68_6, fS68_8, fS68_18, fS68_19, fS68_21, fS68_22, fS68_23, fS68_24, fS68_25, fS68_26, fS68_27, fS68_28, fS68_30, fS68_32, fS68_33, fS68_34, fS68_35, kS69, lS69, kS70, lS70, kS71, lS71, kS72, lS72, kS73, lS73, kS74, lS74, kS75, lS75, kS76, lS76, kS77, lS77, kS78, lS78, kS79, lS79, kS80, lS80, kS81, lS81, kS82, lS82, kS83, lS83, kS84, lS84, kS85, lS85, kS86, lS86, kS87, lS87, kS88, lS88, kS89, lS89, h4]
  | succ m ih =>
    intro k hk
    have e2 := (H.2.2 (s + k) (by omega)).2
    have b := hf (s + k) (by omega) (by omega)
    have nl := numv_999 (T := T) (s := s) (k := k) (by omega) (fun j hj => hf (s + j) (by omega) (by omega))
    have := ih (k + 1) (by omega)
    rw [sb_lo (by omega)] at e2
    rw [show numv T s (k + 1) = 10 * numv T s k + T (s + k) - 48 from rfl, show s + (k + 1) = s + k + 1 by omega] at this
    generalize numv T s (e - s) = fv at *
    generalize numv T s k = x at *
    generalize T (s + k) = y at *
    rw [u72_7]
    simp (disch := first | assumption | omega) only [u72_0, u72_1, u72_2, u72_3, u72_6, u72_8, u72_9, u72_12, u72_15, u72_17, u72_18, u72_19, u72_20, u72_23, u72_24, u72_25, u72_26, u72_28, u72_29, u72_30, u72_33, u72_36, u72_37, ↓br_eq, ↓reduceIte, gd_true, ls_0, ls_1i, ls_1r, ls_1n, ls_1l, ls_2, ls2_eq, List.set_cons_zero, List.set_cons_succ, rf_s, cs_nil, cs_int, cs_ref, cs_long, Option.bind_some, Option.toList_some, Option.toList_none, List.nil_append, List.cons_append, Nat.reduceAdd, Nat.reduceSub, Nat.reduceMul, Nat.reduceLT, Nat.reduceLeDiff, Nat.reduceEqDiff, Int32.reduceAdd, Int32.reduceSub, Int32.reduceMul, Int32.reduceLT, Int32.reduceLE, Int32.reduceToInt, Int32.reduceToNatClampNeg, Int.reduceLE, Int.reduceLT, Int.reduceSub, Int.reduceToNat, and_self, true_and, and_true, or_true, true_or, false_or, or_false, false_and, and_false, not_false_eq_true, not_true_eq_false, eq_self, ↓li_m1, li_0, li_1, li_2, li_3, li_4, li_5, li_6, li_7, li_8, li_10, li_11, li_12, li_13, li_14, li_16, li_20, li_21, li_22, li_23, li_24, li_26, li_32, li_40, li_42, li_46, li_48, li_56, li_57, li_59, li_64, li_72, li_97, li_100, li_102, li_106, li_110, li_119, li_122, li_127, li_194, li_224, li_255, li_300, li_320, li_388, li_500, li_832, li_1000, ltT, ltF, leT, leF, eqT, eqF, eqmF, eqmF2, mlt, mle, mlt2, mle2, inT, cl, sbN, adm, mad, nI_add, pk_mul, dvN, rmN, rmN2, ofN, bo1, bo0, xle, xlt, xnl, xnt, xgt, xgt2, xge, xge0, xmo, dmN, kS0, lS0, kS1, lS1, kS2, lS2, kS3, lS3, kS4, lS4, kS5, lS5, kS6, lS6, kS7, lS7, kS8, fS8_0, fS8_1, fS8_2, fS8_3, fS8_4, fS8_5, fS8_6, fS8_7, fS8_8, fS8_9, kS9, lS9, fS9_0, fS9_1, fS9_2, fS9_3, fS9_4, fS9_5, fS9_6, fS9_7, kS10, fS10_0, fS10_1, kS11, fS11_0, kS12, lS12, kS13, fS13_5, fS13_6, fS13_7, fS13_8, fS13_9, kS14, lS14, kS15, lS15, kS16, lS16, kS17, lS17, kS18, lS18, kS19, fS19_5, fS19_6, fS19_7, fS19_8, fS19_9, kS20, lS20, kS21, lS21, kS22, lS22, kS23, lS23, kS24, lS24, kS25, lS25, fS25_0, fS25_1, kS26, kS27, fS27_3, fS27_4, fS27_5, kS28, lS28, kS29, lS29, kS30, lS30, kS31, fS31_3, fS31_4, kS32, lS32, kS33, lS33, kS34, fS34_3, fS34_4, kS35, lS35, kS36, lS36, kS37, kS38, fS38_0, kS39, lS39, kS40, fS40_0, kS41, lS41, kS42, fS42_0, kS43, lS43, kS44, fS44_0, kS45, lS45, kS46, fS46_0, kS47, lS47, kS48, fS48_0, kS49, lS49, kS50, fS50_0, kS51, lS51, kS52, fS52_0, kS53, lS53, kS54, fS54_0, kS55, lS55, kS56, fS56_5, fS56_6, fS56_7, fS56_8, fS56_9, kS57, lS57, kS58, lS58, kS59, lS59, kS60, lS60, kS61, lS61, kS62, fS62_5, fS62_6, fS62_7, fS62_8, fS62_9, kS63, lS63, kS64, lS64, kS65, lS65, kS66, lS66, kS67, lS67, kS68, fS68_2, fS68_3, fS68_4, fS68_5, fS68_6, fS68_8, fS68_18, fS68_19, fS68_21, fS68_22, fS68_23, fS68_24, fS68_25, fS68_26, fS68_27, fS68_28, fS68_30, fS68_32, fS68_33, fS68_34, fS68_35, kS69, lS69, kS70, lS70, kS71, lS71, kS72, lS72, kS73, lS73, kS74, lS74, kS75, lS75, kS76, lS76, kS77, lS77, kS78, lS78, kS79, lS79, kS80, lS80, kS81, lS81, kS82, lS82, kS83, lS83, kS84, lS84, kS85, lS85, kS86, lS86, kS87, lS87, kS88, lS88, kS89, lS89, h4, e2, this]
set_option maxRecDepth 100000 in
set_option maxHeartbeats 400000 in
theorem k72 {h : aH} {T : Nat → Nat} {n s e : Nat} (H : TC h T n) (hse : s ≤ e) (hen : e ≤ n) (he3 : e ≤ s + 3) (hf : ∀ j, s ≤ j → j < e → 48 ≤ T j ∧ T j ≤ 57) (h3 : h.1 11 3 = nI s) (h4 : h.1 11 4 = nI e) (L d : Nat) : call d 72 [.ref 11] (S0 L) h = some (some (.int (nI (numv T s (e - s)))), S0 L, h) := by
  have n3 := H.2.1
  have := z72 H hse hen he3 hf h4 L d (e - s) 0 (by omega)
  rw [show numv T s 0 = 0 from rfl, Nat.add_zero] at this
  generalize numv T s (e - s) = fv at *
  simp (disch := first | assumption | omega) only [c72, u72_0, u72_1, u72_2, u72_3, u72_6, u72_8, u72_9, u72_12, u72_15, u72_17, u72_18, u72_19, u72_20, u72_23, u72_24, u72_25, u72_26, u72_28, u72_29, u72_30, u72_33, u72_36, u72_37, ↓br_eq, ↓reduceIte, gd_true, ls_0, ls_1i, ls_1r, ls_1n, ls_1l, ls_2, ls2_eq, List.set_cons_zero, List.set_cons_succ, rf_s, cs_nil, cs_int, cs_ref, cs_long, Option.bind_some, Option.toList_some, Option.toList_none, List.nil_append, List.cons_append, Nat.reduceAdd, Nat.reduceSub, Nat.reduceMul, Nat.reduceLT, Nat.reduceLeDiff, Nat.reduceEqDiff, Int32.reduceAdd, Int32.reduceSub, Int32.reduceMul, Int32.reduceLT, Int32.reduceLE, Int32.reduceToInt, Int32.reduceToNatClampNeg, Int.reduceLE, Int.reduceLT, Int.reduceSub, Int.reduceToNat, and_self, true_and, and_true, or_true, true_or, false_or, or_false, false_and, and_false, not_false_eq_true, not_true_eq_false, eq_self, ↓li_m1, li_0, li_1, li_2, li_3, li_4, li_5, li_6, li_7, li_8, li_10, li_11, li_12, li_13, li_14, li_16, li_20, li_21, li_22, li_23, li_24, li_26, li_32, li_40, li_42, li_46, li_48, li_56, li_57, li_59, li_64, li_72, li_97, li_100, li_102, li_106, li_110, li_119, li_122, li_127, li_194, li_224, li_255, li_300, li_320, li_388, li_500, li_832, li_1000, ltT, ltF, leT, leF, eqT, eqF, eqmF, eqmF2, mlt, mle, mlt2, mle2, inT, cl, sbN, adm, mad, nI_add, pk_mul, dvN, rmN, rmN2, ofN, bo1, bo0, xle, xlt, xnl, xnt, xgt, xgt2, xge, xge0, xmo, dmN, kS0, lS0, kS1, lS1, kS2, lS2, kS3, lS3, kS4, lS4, kS5, lS5, kS6, lS6, kS7, lS7, kS8, fS8_0, fS8_1, fS8_2, fS8_3, fS8_4, fS8_5, fS8_6, fS8_7, fS8_8, fS8_9, kS9, lS9, fS9_0, fS9_1, fS9_2, fS9_3, fS9_4, fS9_5, fS9_6, fS9_7, kS10, fS10_0, fS10_1, kS11, fS11_0, kS12, lS12, kS13, fS13_5, fS13_6, fS13_7, fS13_8, fS13_9, kS14, lS14, kS15, lS15, kS16, lS16, kS17, lS17, kS18, lS18, kS19, fS19_5, fS19_6, fS19_7, fS19_8, fS19_9, kS20, lS20, kS21, lS21, kS22, lS22, kS23, lS23, kS24, lS24, kS25, lS25, fS25_0, fS25_1, kS26, kS27, fS27_3, fS27_4, fS27_5, kS28, lS28, kS29, lS29, kS30, lS30, kS31, fS31_3, fS31_4, kS32, lS32, kS33, lS33, kS34, fS34_3, fS34_4, kS35, lS35, kS36, lS36, kS37, kS38, fS38_0, kS39, lS39, kS40, fS40_0, kS41, lS41, kS42, fS42_0, kS43, lS43, kS44, fS44_0, kS45, lS45, kS46, fS46_0, kS47, lS47, kS48, fS48_0, kS49, lS49, kS50, fS50_0, kS51, lS51, kS52, fS52_0, kS53, lS53, kS54, fS54_0, kS55, lS55, kS56, fS56_5, fS56_6, fS56_7, fS56_8, fS56_9, kS57, lS57, kS58, lS58, kS59, lS59, kS60, lS60, kS61, lS61, kS62, fS62_5, fS62_6, fS62_7, fS62_8, fS62_9, kS63, lS63, kS64, lS64, kS65, lS65, kS66, lS66, kS67, lS67, kS68, fS68_2, fS68_3, fS68_4, fS68_5, fS68_6, fS68_8, fS68_18, fS68_19, fS68_21, fS68_22, fS68_23, fS68_24, fS68_25, fS68_26, fS68_27, fS68_28, fS68_30, fS68_32, fS68_33, fS68_34, fS68_35, kS69, lS69, kS70, lS70, kS71, lS71, kS72, lS72, kS73, lS73, kS74, lS74, kS75, lS75, kS76, lS76, kS77, lS77, kS78, lS78, kS79, lS79, kS80, lS80, kS81, lS81, kS82, lS82, kS83, lS83, kS84, lS84, kS85, lS85, kS86, lS86, kS87, lS87, kS88, lS88, kS89, lS89, h3, this]
set_option maxRecDepth 100000 in
set_option maxHeartbeats 400000 in
theorem z147 {h : aH} {T : Nat → Nat} {n s e : Nat} (H : TR h T n) (hse : s ≤ e) (hen : e ≤ n) (he3 : e ≤ s + 3) (hf : ∀ j, s ≤ j → j < e → 48 ≤ T j ∧ T j ≤ 57) (h2 : h.1 68 13 = nI 3) (h4 : h.1 68 15 = nI e) (L d : Nat) : ∀ (m k : Nat), s + k + m = e → ev d 147 7 [.ref 68, .int (nI (numv T s k)), .int (nI (s + k))] [] (S0 L) h = some (some (.int (nI (numv T s (e - s)))), S0 L, h) := by
  have n3 := H.2.1
  intro m
  induction m with
  | zero =>
    intro k hk
    have : e - s = k := by omega
    rw [this, u147_7]
    simp (disch := first | assumption | omega) only [u147_0, u147_1, u147_2, u147_3, u147_6, u147_8, u147_9, u147_12, u147_15, u147_16, u147_19, u147_20, u147_23, u147_25, u147_26, u147_27, u147_28, u147_31, u147_32, u147_33, u147_34, u147_36, u147_37, u147_38, u147_41, u147_44, u147_45, ↓br_eq, ↓reduceIte, gd_true, ls_0, ls_1i, ls_1r, ls_1n, ls_1l, ls_2, ls2_eq, List.set_cons_zero, List.set_cons_succ, rf_s, cs_nil, cs_int, cs_ref, cs_long, Option.bind_some, Option.toList_some, Option.toList_none, List.nil_append, List.cons_append, Nat.reduceAdd, Nat.reduceSub, Nat.reduceMul, Nat.reduceLT, Nat.reduceLeDiff, Nat.reduceEqDiff, Int32.reduceAdd, Int32.reduceSub, Int32.reduceMul, Int32.reduceLT, Int32.reduceLE, Int32.reduceToInt, Int32.reduceToNatClampNeg, Int.reduceLE, Int.reduceLT, Int.reduceSub, Int.reduceToNat, and_self, true_and, and_true, or_true, true_or, false_or, or_false, false_and, and_false, not_false_eq_true, not_true_eq_false, eq_self, ↓li_m1, li_0, li_1, li_2, li_3, li_4, li_5, li_6, li_7, li_8, li_10, li_11, li_12, li_13, li_14, li_16, li_20, li_21, li_22, li_23, li_24, li_26, li_32, li_40, li_42, li_46, li_48, li_56, li_57, li_59, li_64, li_72, li_97, li_100, li_102, li_106, li_110, li_119, li_122, li_127, li_194, li_224, li_255, li_300, li_320, li_388, li_500, li_832, li_1000, ltT, ltF, leT, leF, eqT, eqF, eqmF, eqmF2, mlt, mle, mlt2, mle2, inT, cl, sbN, adm, mad, nI_add, pk_mul, dvN, rmN, rmN2, ofN, bo1, bo0, xle, xlt, xnl, xnt, xgt, xgt2, xge, xge0, xmo, dmN, kS0, lS0, kS1, lS1, kS2, lS2, kS3, lS3, kS4, lS4, kS5, lS5, kS6, lS6, kS7, lS7, kS8, fS8_0, fS8_1, fS8_2, fS8_3, fS8_4, fS8_5, fS8_6, fS8_7, fS8_8, fS8_9, kS9, lS9, fS9_0, fS9_1, fS9_2, fS9_3, fS9_4, fS9_5, fS9_6, fS9_7, kS10, fS10_0, fS10_1, kS11, fS11_0, kS12, lS12, kS13, fS13_5, fS13_6, fS13_7, fS13_8, fS13_9, kS14, lS14, kS15, lS15, kS16, lS16, kS17, lS17, kS18, lS18, kS19, fS19_5, fS19_6, fS19_7, fS19_8, fS19_9, kS20, lS20, kS21, lS21, kS22, lS22, kS23, lS23, kS24, lS24, kS25, lS25, fS25_0, fS25_1, kS26, kS27, fS27_3, fS27_4, fS27_5, kS28, lS28, kS29, lS29, kS30, lS30, kS31, fS31_3, fS31_4, kS32, lS32, kS33, lS33, kS34, fS34_3, fS34_4, kS35, lS35, kS36, lS36, kS37, kS38, fS38_0, kS39, lS39, kS40, fS40_0, kS41, lS41, kS42, fS42_0, kS43, lS43, kS44, fS44_0, kS45, lS45, kS46, fS46_0, kS47, lS47, kS48, fS48_0, kS49, lS49, kS50, fS50_0, kS51, lS51, kS52, fS52_0, kS53, lS53, kS54, fS54_0, kS55, lS55, kS56, fS56_5, fS56_6, fS56_7, fS56_8, fS56_9, kS57, lS57, kS58, lS58, kS59, lS59, kS60, lS60, kS61, lS61, kS62, fS62_5, fS62_6, fS62_7, fS62_8, fS62_9, kS63, lS63, kS64, lS64, kS65, lS65, kS66, lS66, kS67, lS67, kS68, fS68_2, fS68_3, fS68_4, fS68_5, fS68_6, fS68_8, fS68_18, fS68_19, fS68_21, fS68_22, fS68_23, fS68_24, fS68_25, fS68_26, fS68_27, fS68_28, fS68_30, fS68_32, fS68_33, fS68_34, fS68_35, kS69, lS69, kS70, lS70, kS71, lS71, kS72, lS72, kS73, lS73, kS74, lS74, kS75, lS75, kS76, lS76, kS77, lS77, kS78, lS78, kS79, lS79, kS80, lS80, kS81, lS81, kS82, lS82, kS83, lS83, kS84, lS84, kS85, lS85, kS86, lS86, kS87, lS87, kS88, lS88, kS89, lS89, h4]
  | succ m ih =>
    intro k hk
    have e2 := (H.2.2 (s + k) (by omega)).2
    have b := hf (s + k) (by omega) (by omega)
    have nl := numv_999 (T := T) (s := s) (k := k) (by omega) (fun j hj => hf (s + j) (by omega) (by omega))
    have := ih (k + 1) (by omega)
    rw [show numv T s (k + 1) = 10 * numv T s k + T (s + k) - 48 from rfl, show s + (k + 1) = s + k + 1 by omega] at this
    generalize numv T s (e - s) = fv at *
    generalize numv T s k = x at *
    generalize T (s + k) = y at *
    rw [u147_7]
    simp (disch := first | assumption | omega) only [u147_0, u147_1, u147_2, u147_3, u147_6, u147_8, u147_9, u147_12, u147_15, u147_16, u147_19, u147_20, u147_23, u147_25, u147_26, u147_27, u147_28, u147_31, u147_32, u147_33, u147_34, u147_36, u147_37, u147_38, u147_41, u147_44, u147_45, ↓br_eq, ↓reduceIte, gd_true, ls_0, ls_1i, ls_1r, ls_1n, ls_1l, ls_2, ls2_eq, List.set_cons_zero, List.set_cons_succ, rf_s, cs_nil, cs_int, cs_ref, cs_long, Option.bind_some, Option.toList_some, Option.toList_none, List.nil_append, List.cons_append, Nat.reduceAdd, Nat.reduceSub, Nat.reduceMul, Nat.reduceLT, Nat.reduceLeDiff, Nat.reduceEqDiff, Int32.reduceAdd, Int32.reduceSub, Int32.reduceMul, Int32.reduceLT, Int32.reduceLE, Int32.reduceToInt, Int32.reduceToNatClampNeg, Int.reduceLE, Int.reduceLT, Int.reduceSub, Int.reduceToNat, and_self, true_and, and_true, or_true, true_or, false_or, or_false, false_and, and_false, not_false_eq_true, not_true_eq_false, eq_self, ↓li_m1, li_0, li_1, li_2, li_3, li_4, li_5, li_6, li_7, li_8, li_10, li_11, li_12, li_13, li_14, li_16, li_20, li_21, li_22, li_23, li_24, li_26, li_32, li_40, li_42, li_46, li_48, li_56, li_57, li_59, li_64, li_72, li_97, li_100, li_102, li_106, li_110, li_119, li_122, li_127, li_194, li_224, li_255, li_300, li_320, li_388, li_500, li_832, li_1000, ltT, ltF, leT, leF, eqT, eqF, eqmF, eqmF2, mlt, mle, mlt2, mle2, inT, cl, sbN, adm, mad, nI_add, pk_mul, dvN, rmN, rmN2, ofN, bo1, bo0, xle, xlt, xnl, xnt, xgt, xgt2, xge, xge0, xmo, dmN, kS0, lS0, kS1, lS1, kS2, lS2, kS3, lS3, kS4, lS4, kS5, lS5, kS6, lS6, kS7, lS7, kS8, fS8_0, fS8_1, fS8_2, fS8_3, fS8_4, fS8_5, fS8_6, fS8_7, fS8_8, fS8_9, kS9, lS9, fS9_0, fS9_1, fS9_2, fS9_3, fS9_4, fS9_5, fS9_6, fS9_7, kS10, fS10_0, fS10_1, kS11, fS11_0, kS12, lS12, kS13, fS13_5, fS13_6, fS13_7, fS13_8, fS13_9, kS14, lS14, kS15, lS15, kS16, lS16, kS17, lS17, kS18, lS18, kS19, fS19_5, fS19_6, fS19_7, fS19_8, fS19_9, kS20, lS20, kS21, lS21, kS22, lS22, kS23, lS23, kS24, lS24, kS25, lS25, fS25_0, fS25_1, kS26, kS27, fS27_3, fS27_4, fS27_5, kS28, lS28, kS29, lS29, kS30, lS30, kS31, fS31_3, fS31_4, kS32, lS32, kS33, lS33, kS34, fS34_3, fS34_4, kS35, lS35, kS36, lS36, kS37, kS38, fS38_0, kS39, lS39, kS40, fS40_0, kS41, lS41, kS42, fS42_0, kS43, lS43, kS44, fS44_0, kS45, lS45, kS46, fS46_0, kS47, lS47, kS48, fS48_0, kS49, lS49, kS50, fS50_0, kS51, lS51, kS52, fS52_0, kS53, lS53, kS54, fS54_0, kS55, lS55, kS56, fS56_5, fS56_6, fS56_7, fS56_8, fS56_9, kS57, lS57, kS58, lS58, kS59, lS59, kS60, lS60, kS61, lS61, kS62, fS62_5, fS62_6, fS62_7, fS62_8, fS62_9, kS63, lS63, kS64, lS64, kS65, lS65, kS66, lS66, kS67, lS67, kS68, fS68_2, fS68_3, fS68_4, fS68_5, fS68_6, fS68_8, fS68_18, fS68_19, fS68_21, fS68_22, fS68_23, fS68_24, fS68_25, fS68_26, fS68_27, fS68_28, fS68_30, fS68_32, fS68_33, fS68_34, fS68_35, kS69, lS69, kS70, lS70, kS71, lS71, kS72, lS72, kS73, lS73, kS74, lS74, kS75, lS75, kS76, lS76, kS77, lS77, kS78, lS78, kS79, lS79, kS80, lS80, kS81, lS81, kS82, lS82, kS83, lS83, kS84, lS84, kS85, lS85, kS86, lS86, kS87, lS87, kS88, lS88, kS89, lS89, h2, h4, e2, this]
/-- the number that stands there; none: 0 -/
def nuT (T : Nat → Nat) (s e t : Nat) : Nat := if t = 2 then numv T s (e - s) else 0
set_option maxRecDepth 100000 in
set_option maxHeartbeats 400000 in
theorem k147 {h : aH} {T : Nat → Nat} {n s e t : Nat} (H : TR h T n) (hse : s ≤ e) (hen : e ≤ n) (ht : t ≤ 4) (hf : t = 2 → e ≤ s + 3 ∧ ∀ j, s ≤ j → j < e → 48 ≤ T j ∧ T j ≤ 57) (h2 : h.1 68 13 = nI (tR t)) (h3 : h.1 68 14 = nI s) (h4 : h.1 68 15 = nI e) (L d : Nat) : call d 147 [.ref 68] (S0 L) h = some (some (.int (nI (nuT T s e t))), S0 L, h) := by
  have n3 := H.2.1
  unfold nuT
  by_cases q : t = 2
  · rw [if_pos q]
    subst q
    have := z147 H hse hen (hf rfl).1 (hf rfl).2 h2 h4 L d (e - s) 0 (by omega)
    rw [show numv T s 0 = 0 from rfl, Nat.add_zero] at this
    generalize numv T s (e - s) = fv at *
    simp (disch := first | assumption | omega) only [c147, u147_0, u147_1, u147_2, u147_3, u147_6, u147_8, u147_9, u147_12, u147_15, u147_16, u147_19, u147_20, u147_23, u147_25, u147_26, u147_27, u147_28, u147_31, u147_32, u147_33, u147_34, u147_36, u147_37, u147_38, u147_41, u147_44, u147_45, ↓br_eq, ↓reduceIte, gd_true, ls_0, ls_1i, ls_1r, ls_1n, ls_1l, ls_2, ls2_eq, List.set_cons_zero, List.set_cons_succ, rf_s, cs_nil, cs_int, cs_ref, cs_long, Option.bind_some, Option.toList_some, Option.toList_none, List.nil_append, List.cons_append, Nat.reduceAdd, Nat.reduceSub, Nat.reduceMul, Nat.reduceLT, Nat.reduceLeDiff, Nat.reduceEqDiff, Int32.reduceAdd, Int32.reduceSub, Int32.reduceMul, Int32.reduceLT, Int32.reduceLE, Int32.reduceToInt, Int32.reduceToNatClampNeg, Int.reduceLE, Int.reduceLT, Int.reduceSub, Int.reduceToNat, and_self, true_and, and_true, or_true, true_or, false_or, or_false, false_and, and_false, not_false_eq_true, not_true_eq_false, eq_self, ↓li_m1, li_0, li_1, li_2, li_3, li_4, li_5, li_6, li_7, li_8, li_10, li_11, li_12, li_13, li_14, li_16, li_20, li_21, li_22, li_23, li_24, li_26, li_32, li_40, li_42, li_46, li_48, li_56, li_57, li_59, li_64, li_72, li_97, li_100, li_102, li_106, li_110, li_119, li_122, li_127, li_194, li_224, li_255, li_300, li_320, li_388, li_500, li_832, li_1000, ltT, ltF, leT, leF, eqT, eqF, eqmF, eqmF2, mlt, mle, mlt2, mle2, inT, cl, sbN, adm, mad, nI_add, pk_mul, dvN, rmN, rmN2, ofN, bo1, bo0, xle, xlt, xnl, xnt, xgt, xgt2, xge, xge0, xmo, dmN, kS0, lS0, kS1, lS1, kS2, lS2, kS3, lS3, kS4, lS4, kS5, lS5, kS6, lS6, kS7, lS7, kS8, fS8_0, fS8_1, fS8_2, fS8_3, fS8_4, fS8_5, fS8_6, fS8_7, fS8_8, fS8_9, kS9, lS9, fS9_0, fS9_1, fS9_2, fS9_3, fS9_4, fS9_5, fS9_6, fS9_7, kS10, fS10_0, fS10_1, kS11, fS11_0, kS12, lS12, kS13, fS13_5, fS13_6, fS13_7, fS13_8, fS13_9, kS14, lS14, kS15, lS15, kS16, lS16, kS17, lS17, kS18, lS18, kS19, fS19_5, fS19_6, fS19_7, fS19_8, fS19_9, kS20, lS20, kS21, lS21, kS22, lS22, kS23, lS23, kS24, lS24, kS25, lS25, fS25_0, fS25_1, kS26, kS27, fS27_3, fS27_4, fS27_5, kS28, lS28, kS29, lS29, kS30, lS30, kS31, fS31_3, fS31_4, kS32, lS32, kS33, lS33, kS34, fS34_3, fS34_4, kS35, lS35, kS36, lS36, kS37, kS38, fS38_0, kS39, lS39, kS40, fS40_0, kS41, lS41, kS42, fS42_0, kS43, lS43, kS44, fS44_0, kS45, lS45, kS46, fS46_0, kS47, lS47, kS48, fS48_0, kS49, lS49, kS50, fS50_0, kS51, lS51, kS52, fS52_0, kS53, lS53, kS54, fS54_0, kS55, lS55, kS56, fS56_5, fS56_6, fS56_7, fS56_8, fS56_9, kS57, lS57, kS58, lS58, kS59, lS59, kS60, lS60, kS61, lS61, kS62, fS62_5, fS62_6, fS62_7, fS62_8, fS62_9, kS63, lS63, kS64, lS64, kS65, lS65, kS66, lS66, kS67, lS67, kS68, fS68_2, fS68_3, fS68_4, fS68_5, fS68_6, fS68_8, fS68_18, fS68_19, fS68_21, fS68_22, fS68_23, fS68_24, fS68_25, fS68_26, fS68_27, fS68_28, fS68_30, fS68_32, fS68_33, fS68_34, fS68_35, kS69, lS69, kS70, lS70, kS71, lS71, kS72, lS72, kS73, lS73, kS74, lS74, kS75, lS75, kS76, lS76, kS77, lS77, kS78, lS78, kS79, lS79, kS80, lS80, kS81, lS81, kS82, lS82, kS83, lS83, kS84, lS84, kS85, lS85, kS86, lS86, kS87, lS87, kS88, lS88, kS89, lS89, h3, this]
  · rw [if_neg q]
    have q2 : ¬ tR t = 3 := by unfold tR; split <;> omega
    have q3 : tR t < 10 := by unfold tR; split <;> omega
    generalize tR t = t' at *
    by_cases z : e ≤ s
    · simp (disch := first | assumption | omega) only [c147, u147_0, u147_1, u147_2, u147_3, u147_6, u147_7, u147_8, u147_9, u147_12, u147_15, u147_16, u147_19, u147_20, u147_23, u147_25, u147_26, u147_27, u147_28, u147_31, u147_32, u147_33, u147_34, u147_36, u147_37, u147_38, u147_41, u147_44, u147_45, ↓br_eq, ↓reduceIte, gd_true, ls_0, ls_1i, ls_1r, ls_1n, ls_1l, ls_2, ls2_eq, List.set_cons_zero, List.set_cons_succ, rf_s, cs_nil, cs_int, cs_ref, cs_long, Option.bind_some, Option.toList_some, Option.toList_none, List.nil_append, List.cons_append, Nat.reduceAdd, Nat.reduceSub, Nat.reduceMul, Nat.reduceLT, Nat.reduceLeDiff, Nat.reduceEqDiff, Int32.reduceAdd, Int32.reduceSub, Int32.reduceMul, Int32.reduceLT, Int32.reduceLE, Int32.reduceToInt, Int32.reduceToNatClampNeg, Int.reduceLE, Int.reduceLT, Int.reduceSub, Int.reduceToNat, and_self, true_and, and_true, or_true, true_or, false_or, or_false, false_and, and_false, not_false_eq_true, not_true_eq_false, eq_self, ↓li_m1, li_0, li_1, li_2, li_3, li_4, li_5, li_6, li_7, li_8, li_10, li_11, li_12, li_13, li_14, li_16, li_20, li_21, li_22, li_23, li_24, li_26, li_32, li_40, li_42, li_46, li_48, li_56, li_57, li_59, li_64, li_72, li_97, li_100, li_102, li_106, li_110, li_119, li_122, li_127, li_194, li_224, li_255, li_300, li_320, li_388, li_500, li_832, li_1000, ltT, ltF, leT, leF, eqT, eqF, eqmF, eqmF2, mlt, mle, mlt2, mle2, inT, cl, sbN, adm, mad, nI_add, pk_mul, dvN, rmN, rmN2, ofN, bo1, bo0, xle, xlt, xnl, xnt, xgt, xgt2, xge, xge0, xmo, dmN, kS0, lS0, kS1, lS1, kS2, lS2, kS3, lS3, kS4, lS4, kS5, lS5, kS6, lS6, kS7, lS7, kS8, fS8_0, fS8_1, fS8_2, fS8_3, fS8_4, fS8_5, fS8_6, fS8_7, fS8_8, fS8_9, kS9, lS9, fS9_0, fS9_1, fS9_2, fS9_3, fS9_4, fS9_5, fS9_6, fS9_7, kS10, fS10_0, fS10_1, kS11, fS11_0, kS12, lS12, kS13, fS13_5, fS13_6, fS13_7, fS13_8, fS13_9, kS14, lS14, kS15, lS15, kS16, lS16, kS17, lS17, kS18, lS18, kS19, fS19_5, fS19_6, fS19_7, fS19_8, fS19_9, kS20, lS20, kS21, lS21, kS22, lS22, kS23, lS23, kS24, lS24, kS25, lS25, fS25_0, fS25_1, kS26, kS27, fS27_3, fS27_4, fS27_5, kS28, lS28, kS29, lS29, kS30, lS30, kS31, fS31_3, fS31_4, kS32, lS32, kS33, lS33, kS34, fS34_3, fS34_4, kS35, lS35, kS36, lS36, kS37, kS38, fS38_0, kS39, lS39, kS40, fS40_0, kS41, lS41, kS42, fS42_0, kS43, lS43, kS44, fS44_0, kS45, lS45, kS46, fS46_0, kS47, lS47, kS48, fS48_0, kS49, lS49, kS50, fS50_0, kS51, lS51, kS52, fS52_0, kS53, lS53, kS54, fS54_0, kS55, lS55, kS56, fS56_5, fS56_6, fS56_7, fS56_8, fS56_9, kS57, lS57, kS58, lS58, kS59, lS59, kS60, lS60, kS61, lS61, kS62, fS62_5, fS62_6, fS62_7, fS62_8, fS62_9, kS63, lS63, kS64, lS64, kS65, lS65, kS66, lS66, kS67, lS67, kS68, fS68_2, fS68_3, fS68_4, fS68_5, fS68_6, fS68_8, fS68_18, fS68_19, fS68_21, fS68_22, fS68_23, fS68_24, fS68_25, fS68_26, fS68_27, fS68_28, fS68_30, fS68_32, fS68_33, fS68_34, fS68_35, kS69, lS69, kS70, lS70, kS71, lS71, kS72, lS72, kS73, lS73, kS74, lS74, kS75, lS75, kS76, lS76, kS77, lS77, kS78, lS78, kS79, lS79, kS80, lS80, kS81, lS81, kS82, lS82, kS83, lS83, kS84, lS84, kS85, lS85, kS86, lS86, kS87, lS87, kS88, lS88, kS89, lS89, h3, h4]
    · simp (disch := first | assumption | omega) only [c147, u147_0, u147_1, u147_2, u147_3, u147_6, u147_7, u147_8, u147_9, u147_12, u147_15, u147_16, u147_19, u147_20, u147_23, u147_25, u147_26, u147_27, u147_28, u147_31, u147_32, u147_33, u147_34, u147_36, u147_37, u147_38, u147_41, u147_44, u147_45, ↓br_eq, ↓reduceIte, gd_true, ls_0, ls_1i, ls_1r, ls_1n, ls_1l, ls_2, ls2_eq, List.set_cons_zero, List.set_cons_succ, rf_s, cs_nil, cs_int, cs_ref, cs_long, Option.bind_some, Option.toList_some, Option.toList_none, List.nil_append, List.cons_append, Nat.reduceAdd, Nat.reduceSub, Nat.reduceMul, Nat.reduceLT, Nat.reduceLeDiff, Nat.reduceEqDiff, Int32.reduceAdd, Int32.reduceSub, Int32.reduceMul, Int32.reduceLT, Int32.reduceLE, Int32.reduceToInt, Int32.reduceToNatClampNeg, Int.reduceLE, Int.reduceLT, Int.reduceSub, Int.reduceToNat, and_self, true_and, and_true, or_true, true_or, false_or, or_false, false_and, and_false, not_false_eq_true, not_true_eq_false, eq_self, ↓li_m1, li_0, li_1, li_2, li_3, li_4, li_5, li_6, li_7, li_8, li_10, li_11, li_12, li_13, li_14, li_16, li_20, li_21, li_22, li_23, li_24, li_26, li_32, li_40, li_42, li_46, li_48, li_56, li_57, li_59, li_64, li_72, li_97, li_100, li_102, li_106, li_110, li_119, li_122, li_127, li_194, li_224, li_255, li_300, li_320, li_388, li_500, li_832, li_1000, ltT, ltF, leT, leF, eqT, eqF, eqmF, eqmF2, mlt, mle, mlt2, mle2, inT, cl, sbN, adm, mad, nI_add, pk_mul, dvN, rmN, rmN2, ofN, bo1, bo0, xle, xlt, xnl, xnt, xgt, xgt2, xge, xge0, xmo, dmN, kS0, lS0, kS1, lS1, kS2, lS2, kS3, lS3, kS4, lS4, kS5, lS5, kS6, lS6, kS7, lS7, kS8, fS8_0, fS8_1, fS8_2, fS8_3, fS8_4, fS8_5, fS8_6, fS8_7, fS8_8, fS8_9, kS9, lS9, fS9_0, fS9_1, fS9_2, fS9_3, fS9_4, fS9_5, fS9_6, fS9_7, kS10, fS10_0, fS10_1, kS11, fS11_0, kS12, lS12, kS13, fS13_5, fS13_6, fS13_7, fS13_8, fS13_9, kS14, lS14, kS15, lS15, kS16, lS16, kS17, lS17, kS18, lS18, kS19, fS19_5, fS19_6, fS19_7, fS19_8, fS19_9, kS20, lS20, kS21, lS21, kS22, lS22, kS23, lS23, kS24, lS24, kS25, lS25, fS25_0, fS25_1, kS26, kS27, fS27_3, fS27_4, fS27_5, kS28, lS28, kS29, lS29, kS30, lS30, kS31, fS31_3, fS31_4, kS32, lS32, kS33, lS33, kS34, fS34_3, fS34_4, kS35, lS35, kS36, lS36, kS37, kS38, fS38_0, kS39, lS39, kS40, fS40_0, kS41, lS41, kS42, fS42_0, kS43, lS43, kS44, fS44_0, kS45, lS45, kS46, fS46_0, kS47, lS47, kS48, fS48_0, kS49, lS49, kS50, fS50_0, kS51, lS51, kS52, fS52_0, kS53, lS53, kS54, fS54_0, kS55, lS55, kS56, fS56_5, fS56_6, fS56_7, fS56_8, fS56_9, kS57, lS57, kS58, lS58, kS59, lS59, kS60, lS60, kS61, lS61, kS62, fS62_5, fS62_6, fS62_7, fS62_8, fS62_9, kS63, lS63, kS64, lS64, kS65, lS65, kS66, lS66, kS67, lS67, kS68, fS68_2, fS68_3, fS68_4, fS68_5, fS68_6, fS68_8, fS68_18, fS68_19, fS68_21, fS68_22, fS68_23, fS68_24, fS68_25, fS68_26, fS68_27, fS68_28, fS68_30, fS68_32, fS68_33, fS68_34, fS68_35, kS69, lS69, kS70, lS70, kS71, lS71, kS72, lS72, kS73, lS73, kS74, lS74, kS75, lS75, kS76, lS76, kS77, lS77, kS78, lS78, kS79, lS79, kS80, lS80, kS81, lS81, kS82, lS82, kS83, lS83, kS84, lS84, kS85, lS85, kS86, lS86, kS87, lS87, kS88, lS88, kS89, lS89, h2, h3, h4]
