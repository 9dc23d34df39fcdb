/-! shares: the step -/
set_option maxRecDepth 100000 in
set_option maxHeartbeats 400000 in
theorem max_c (a b : Nat) : (max a b = a ∧ b ≤ a) ∨ (max a b = b ∧ a ≤ b) := by
  by_cases h : b ≤ a
  · exact Or.inl ⟨Nat.max_eq_left h, h⟩
  · exact Or.inr ⟨Nat.max_eq_right (by omega), by omega⟩
def okS (A f0 T0 f1 T1 f2 T2 : Nat) : Prop := (T0 ≤ A ∧ f0 ≤ A - T0) ∧ (T1 ≤ A ∧ f1 ≤ A - T1) ∧ (T2 ≤ A ∧ f2 ≤ A - T2) ∧ f0 + f1 + f2 ≤ A ∧ A ≤ (A - T0) + (A - T1) + (A - T2)
set_option maxRecDepth 100000 in
set_option maxHeartbeats 400000 in
theorem pu3_no {A : Nat} {D : Nat → Nat} (h : ¬ okS A (D 1) (D 6) (D 2) (D 5) (D 4) (D 3)) (a b : Nat) (h1 : D 1 ≤ a) (h2 : D 2 ≤ b) (h3 : a + b ≤ A) : ¬ isP 3 D A a b := by
  intro hp
  unfold isP at hp
  unfold okS at h
  generalize D 1 = d1 at *
  generalize D 2 = d2 at *
  generalize D 3 = d3 at *
  generalize D 4 = d4 at *
  generalize D 5 = d5 at *
  generalize D 6 = d6 at *
  obtain ⟨p1, -, p3⟩ := hp
  have p1 : d4 ≤ A - a - b ∧ d5 ≤ a + (A - a - b) ∧ d6 ≤ b + (A - a - b) := by omega
  apply h
  omega
set_option maxRecDepth 100000 in
set_option maxHeartbeats 400000 in
theorem pu3_ok {A : Nat} {D : Nat → Nat} (h : okS A (D 1) (D 6) (D 2) (D 5) (D 4) (D 3)) : D 1 ≤ sh1 A (D 1) (A - D 5) (A - D 3) ∧ D 2 ≤ sh2 A (D 1) (D 2) (A - D 5) (A - D 3) ∧ sh1 A (D 1) (A - D 5) (A - D 3) + sh2 A (D 1) (D 2) (A - D 5) (A - D 3) ≤ A ∧ isP 3 D A (sh1 A (D 1) (A - D 5) (A - D 3)) (sh2 A (D 1) (D 2) (A - D 5) (A - D 3)) ∧ ∀ a b, D 1 ≤ a → D 2 ≤ b → a + b ≤ A → isP 3 D A a b → sh1 A (D 1) (A - D 5) (A - D 3) < a ∨ (sh1 A (D 1) (A - D 5) (A - D 3) = a ∧ sh2 A (D 1) (D 2) (A - D 5) (A - D 3) ≤ b) := by
  unfold okS at h
  unfold isP
  have m1 := max_c (D 1) (A - (A - D 5) - (A - D 3))
  have m2 := max_c (D 2) (A - sh1 A (D 1) (A - D 5) (A - D 3) - (A - D 3))
  change (sh1 A (D 1) (A - D 5) (A - D 3) = _ ∧ _) ∨ (sh1 A (D 1) (A - D 5) (A - D 3) = _ ∧ _) at m1
  change (sh2 A (D 1) (D 2) (A - D 5) (A - D 3) = _ ∧ _) ∨ (sh2 A (D 1) (D 2) (A - D 5) (A - D 3) = _ ∧ _) at m2
  generalize sh1 A (D 1) (A - D 5) (A - D 3) = u1 at *
  generalize sh2 A (D 1) (D 2) (A - D 5) (A - D 3) = u2 at *
  generalize D 1 = d1 at *
  generalize D 2 = d2 at *
  generalize D 3 = d3 at *
  generalize D 4 = d4 at *
  generalize D 5 = d5 at *
  generalize D 6 = d6 at *
  refine ⟨by omega, by omega, by omega, ⟨Or.inr ⟨rfl, by omega, by omega, by omega⟩, Or.inl (by omega), by omega⟩, fun a b a1 a2 a3 hp => ?_⟩
  obtain ⟨p1, -, p3⟩ := hp
  have p1 : d4 ≤ A - a - b ∧ d5 ≤ a + (A - a - b) ∧ d6 ≤ b + (A - a - b) := by omega
  omega
set_option maxRecDepth 100000 in
set_option maxHeartbeats 400000 in
theorem pu2_no {A : Nat} {D : Nat → Nat} (hA : D 3 = A) (h : ¬ okS A (D 1) (D 2) (D 2) (D 1) 0 A) (a b : Nat) (h1 : D 1 ≤ a) (h2 : D 2 ≤ b) (h3 : a + b ≤ A) : ¬ isP 2 D A a b := by
  intro hp
  unfold isP at hp
  unfold okS at h
  generalize D 1 = d1 at *
  generalize D 2 = d2 at *
  generalize D 3 = d3 at *
  obtain ⟨p1, -, p3⟩ := hp
  apply h
  omega
set_option maxRecDepth 100000 in
set_option maxHeartbeats 400000 in
theorem pu2_ok {A : Nat} {D : Nat → Nat} (hA : D 3 = A) (h : okS A (D 1) (D 2) (D 2) (D 1) 0 A) : D 1 ≤ sh1 A (D 1) (A - D 1) 0 ∧ D 2 ≤ sh2 A (D 1) (D 2) (A - D 1) 0 ∧ sh1 A (D 1) (A - D 1) 0 + sh2 A (D 1) (D 2) (A - D 1) 0 ≤ A ∧ isP 2 D A (sh1 A (D 1) (A - D 1) 0) (sh2 A (D 1) (D 2) (A - D 1) 0) ∧ ∀ a b, D 1 ≤ a → D 2 ≤ b → a + b ≤ A → isP 2 D A a b → sh1 A (D 1) (A - D 1) 0 < a ∨ (sh1 A (D 1) (A - D 1) 0 = a ∧ sh2 A (D 1) (D 2) (A - D 1) 0 ≤ b) := by
  unfold okS at h
  unfold isP
  have m1 := max_c (D 1) (A - (A - D 1) - 0)
  have m2 := max_c (D 2) (A - sh1 A (D 1) (A - D 1) 0 - 0)
  change (sh1 A (D 1) (A - D 1) 0 = _ ∧ _) ∨ (sh1 A (D 1) (A - D 1) 0 = _ ∧ _) at m1
  change (sh2 A (D 1) (D 2) (A - D 1) 0 = _ ∧ _) ∨ (sh2 A (D 1) (D 2) (A - D 1) 0 = _ ∧ _) at m2
  generalize sh1 A (D 1) (A - D 1) 0 = u1 at *
  generalize sh2 A (D 1) (D 2) (A - D 1) 0 = u2 at *
  generalize D 1 = d1 at *
  generalize D 2 = d2 at *
  generalize D 3 = d3 at *
  refine ⟨by omega, by omega, by omega, ⟨Or.inl ⟨by omega, by omega⟩, Or.inl (by omega), by omega⟩, fun a b a1 a2 a3 hp => ?_⟩
  obtain ⟨p1, -, p3⟩ := hp
  omega
set_option maxRecDepth 100000 in
set_option maxHeartbeats 400000 in
theorem z97 {g : Nat → Int32} (m : Int32) (L : Nat) : ∀ (n k : Nat), k + n = qM g → ∀ h : aH, HG h g → (∀ j, h.1 1 j = strF j) → IBt g h → (∀ j, j < k → tbl h g (qP g j)) → ∃ h', ev 999 97 27 [.ref 8, .int m, .int (nI k)] [] (S0 L) h = ev 999 97 64 [.ref 8, .int m, .int (nI (qM g))] [] (S0 L) h' ∧ LRN h h' ∧ IBt g h' ∧ allT g h' := by
  intro n
  induction n with
  | zero =>
    intro k hk h G hC hB hT
    have m4 := G.1.m4
    have e := G.m
    refine ⟨h, ?_, LRN.refl h, hB, fun j hj => hT j (by omega)⟩
    rw [u97_27]
    simp (disch := first | assumption | omega) only [u97_0, u97_1, u97_4, u97_5, u97_8, u97_11, u97_12, u97_15, u97_18, u97_19, u97_22, u97_24, u97_25, u97_26, u97_28, u97_29, u97_32, u97_35, u97_38, u97_39, u97_42, u97_43, u97_46, u97_47, u97_50, u97_53, u97_54, u97_55, u97_58, u97_61, u97_65, u97_66, u97_69, ↓br_eq, ↓reduceIte, gd_true, ls_0, ls_1i, ls_1r, ls_1n, ls_1l, ls_2, ls2_eq, List.set_cons_zero, List.set_cons_succ, rf_s, cs_nil, cs_int, cs_ref, cs_long, Option.bind_some, Option.toList_some, Option.toList_none, List.nil_append, List.cons_append, Nat.reduceAdd, Nat.reduceSub, Nat.reduceMul, Nat.reduceLT, Nat.reduceLeDiff, Nat.reduceEqDiff, Int32.reduceAdd, Int32.reduceSub, Int32.reduceMul, Int32.reduceLT, Int32.reduceLE, Int32.reduceToInt, Int32.reduceToNatClampNeg, Int.reduceLE, Int.reduceLT, Int.reduceSub, Int.reduceToNat, and_self, true_and, and_true, or_true, true_or, false_or, or_false, false_and, and_false, not_false_eq_true, not_true_eq_false, eq_self, ↓li_m1, li_0, li_1, li_2, li_3, li_4, li_5, li_6, li_7, li_8, li_10, li_11, li_12, li_13, li_14, li_16, li_20, li_21, li_22, li_23, li_24, li_26, li_32, li_40, li_42, li_46, li_48, li_56, li_57, li_59, li_64, li_72, li_97, li_100, li_102, li_106, li_110, li_119, li_122, li_127, li_194, li_224, li_255, li_300, li_320, li_388, li_500, li_832, li_1000, ltT, ltF, leT, leF, eqT, eqF, eqmF, eqmF2, mlt, mle, mlt2, mle2, inT, cl, sbN, adm, mad, nI_add, pk_mul, dvN, rmN, rmN2, ofN, bo1, bo0, xle, xlt, xnl, xnt, xgt, xgt2, xge, xge0, xmo, dmN, kS0, lS0, kS1, lS1, kS2, lS2, kS3, lS3, kS4, lS4, kS5, lS5, kS6, lS6, kS7, lS7, kS8, fS8_0, fS8_1, fS8_2, fS8_3, fS8_4, fS8_5, fS8_6, fS8_7, fS8_8, fS8_9, kS9, lS9, fS9_0, fS9_1, fS9_2, fS9_3, fS9_4, fS9_5, fS9_6, fS9_7, kS10, fS10_0, fS10_1, kS11, fS11_0, kS12, lS12, kS13, fS13_5, fS13_6, fS13_7, fS13_8, fS13_9, kS14, lS14, kS15, lS15, kS16, lS16, kS17, lS17, kS18, lS18, kS19, fS19_5, fS19_6, fS19_7, fS19_8, fS19_9, kS20, lS20, kS21, lS21, kS22, lS22, kS23, lS23, kS24, lS24, kS25, lS25, fS25_0, fS25_1, kS26, kS27, fS27_3, fS27_4, fS27_5, kS28, lS28, kS29, lS29, kS30, lS30, kS31, fS31_3, fS31_4, kS32, lS32, kS33, lS33, kS34, fS34_3, fS34_4, kS35, lS35, kS36, lS36, kS37, kS38, fS38_0, kS39, lS39, kS40, fS40_0, kS41, lS41, kS42, fS42_0, kS43, lS43, kS44, fS44_0, kS45, lS45, kS46, fS46_0, kS47, lS47, kS48, fS48_0, kS49, lS49, kS50, fS50_0, kS51, lS51, kS52, fS52_0, kS53, lS53, kS54, fS54_0, kS55, lS55, kS56, fS56_5, fS56_6, fS56_7, fS56_8, fS56_9, kS57, lS57, kS58, lS58, kS59, lS59, kS60, lS60, kS61, lS61, kS62, fS62_5, fS62_6, fS62_7, fS62_8, fS62_9, kS63, lS63, kS64, lS64, kS65, lS65, kS66, lS66, kS67, lS67, kS68, fS68_2, fS68_3, fS68_4, fS68_5, fS68_6, fS68_8, fS68_18, fS68_19, fS68_21, fS68_22, fS68_23, fS68_24, fS68_25, fS68_26, fS68_27, fS68_28, fS68_30, fS68_32, fS68_33, fS68_34, fS68_35, kS69, lS69, kS70, lS70, kS71, lS71, kS72, lS72, kS73, lS73, kS74, lS74, kS75, lS75, kS76, lS76, kS77, lS77, kS78, lS78, kS79, lS79, kS80, lS80, kS81, lS81, kS82, lS82, kS83, lS83, kS84, lS84, kS85, lS85, kS86, lS86, kS87, lS87, kS88, lS88, kS89, lS89, e]
    rw [show k = qM g by omega]
  | succ n ih =>
    intro k hk h G hC hB hT
    have m4 := G.1.m4
    have e := G.m
    have ep := G.peg (m := k) (by omega)
    have pin := (G.1.peg (m := k) (by omega)).2.1
    obtain ⟨h1, a1, a2, a3, a4, a5⟩ := k14x G hC pin hB L 980
    obtain ⟨h', b1, b2, b3, b4⟩ := ih (k + 1) (by omega) h1 (G.lrn a2) (fun j => by rw [a2.1 1 j (by omega) (by omega) (by omega)]; exact hC j) a3 (fun j hj => by
      by_cases z : j = k
      · rw [z]; exact a4
      · exact a5 _ (hT j (by omega)))
    refine ⟨h', ?_, a2.trans b2, b3, b4⟩
    rw [u97_27]
    simp (disch := first | assumption | omega) only [u97_0, u97_1, u97_4, u97_5, u97_8, u97_11, u97_12, u97_15, u97_18, u97_19, u97_22, u97_24, u97_25, u97_26, u97_28, u97_29, u97_32, u97_35, u97_38, u97_39, u97_42, u97_43, u97_46, u97_47, u97_50, u97_53, u97_54, u97_55, u97_58, u97_61, u97_65, u97_66, u97_69, ↓br_eq, ↓reduceIte, gd_true, ls_0, ls_1i, ls_1r, ls_1n, ls_1l, ls_2, ls2_eq, List.set_cons_zero, List.set_cons_succ, rf_s, cs_nil, cs_int, cs_ref, cs_long, Option.bind_some, Option.toList_some, Option.toList_none, List.nil_append, List.cons_append, Nat.reduceAdd, Nat.reduceSub, Nat.reduceMul, Nat.reduceLT, Nat.reduceLeDiff, Nat.reduceEqDiff, Int32.reduceAdd, Int32.reduceSub, Int32.reduceMul, Int32.reduceLT, Int32.reduceLE, Int32.reduceToInt, Int32.reduceToNatClampNeg, Int.reduceLE, Int.reduceLT, Int.reduceSub, Int.reduceToNat, and_self, true_and, and_true, or_true, true_or, false_or, or_false, false_and, and_false, not_false_eq_true, not_true_eq_false, eq_self, ↓li_m1, li_0, li_1, li_2, li_3, li_4, li_5, li_6, li_7, li_8, li_10, li_11, li_12, li_13, li_14, li_16, li_20, li_21, li_22, li_23, li_24, li_26, li_32, li_40, li_42, li_46, li_48, li_56, li_57, li_59, li_64, li_72, li_97, li_100, li_102, li_106, li_110, li_119, li_122, li_127, li_194, li_224, li_255, li_300, li_320, li_388, li_500, li_832, li_1000, ltT, ltF, leT, leF, eqT, eqF, eqmF, eqmF2, mlt, mle, mlt2, mle2, inT, cl, sbN, adm, mad, nI_add, pk_mul, dvN, rmN, rmN2, ofN, bo1, bo0, xle, xlt, xnl, xnt, xgt, xgt2, xge, xge0, xmo, dmN, kS0, lS0, kS1, lS1, kS2, lS2, kS3, lS3, kS4, lS4, kS5, lS5, kS6, lS6, kS7, lS7, kS8, fS8_0, fS8_1, fS8_2, fS8_3, fS8_4, fS8_5, fS8_6, fS8_7, fS8_8, fS8_9, kS9, lS9, fS9_0, fS9_1, fS9_2, fS9_3, fS9_4, fS9_5, fS9_6, fS9_7, kS10, fS10_0, fS10_1, kS11, fS11_0, kS12, lS12, kS13, fS13_5, fS13_6, fS13_7, fS13_8, fS13_9, kS14, lS14, kS15, lS15, kS16, lS16, kS17, lS17, kS18, lS18, kS19, fS19_5, fS19_6, fS19_7, fS19_8, fS19_9, kS20, lS20, kS21, lS21, kS22, lS22, kS23, lS23, kS24, lS24, kS25, lS25, fS25_0, fS25_1, kS26, kS27, fS27_3, fS27_4, fS27_5, kS28, lS28, kS29, lS29, kS30, lS30, kS31, fS31_3, fS31_4, kS32, lS32, kS33, lS33, kS34, fS34_3, fS34_4, kS35, lS35, kS36, lS36, kS37, kS38, fS38_0, kS39, lS39, kS40, fS40_0, kS41, lS41, kS42, fS42_0, kS43, lS43, kS44, fS44_0, kS45, lS45, kS46, fS46_0, kS47, lS47, kS48, fS48_0, kS49, lS49, kS50, fS50_0, kS51, lS51, kS52, fS52_0, kS53, lS53, kS54, fS54_0, kS55, lS55, kS56, fS56_5, fS56_6, fS56_7, fS56_8, fS56_9, kS57, lS57, kS58, lS58, kS59, lS59, kS60, lS60, kS61, lS61, kS62, fS62_5, fS62_6, fS62_7, fS62_8, fS62_9, kS63, lS63, kS64, lS64, kS65, lS65, kS66, lS66, kS67, lS67, kS68, fS68_2, fS68_3, fS68_4, fS68_5, fS68_6, fS68_8, fS68_18, fS68_19, fS68_21, fS68_22, fS68_23, fS68_24, fS68_25, fS68_26, fS68_27, fS68_28, fS68_30, fS68_32, fS68_33, fS68_34, fS68_35, kS69, lS69, kS70, lS70, kS71, lS71, kS72, lS72, kS73, lS73, kS74, lS74, kS75, lS75, kS76, lS76, kS77, lS77, kS78, lS78, kS79, lS79, kS80, lS80, kS81, lS81, kS82, lS82, kS83, lS83, kS84, lS84, kS85, lS85, kS86, lS86, kS87, lS87, kS88, lS88, kS89, lS89, e, ep, a1, b1]
set_option maxRecDepth 100000 in
set_option maxHeartbeats 400000 in
theorem shares_step (L : Nat) (x : Int32) : lawStp L 97 191 Inv [.int x] := by
  intro h H
  have G := H.hg
  have D := H.hd.thr (nI 0)
  have m4 := G.1.m4
  rcases ix3 x (n := qM (h.1 72)) (by omega) with hx | hx | ⟨m, hm, rfl⟩
  · have a1 := mn_26x G (Or.inl hx) L 998
    have b1 := mn_160x D.1 (Or.inl hx) L 997
    refine stp_bad H (v := -1000001) ?_ ?_
    · simp (disch := first | assumption | omega) only [c97, u97_0, u97_1, u97_4, u97_5, u97_8, u97_11, u97_12, u97_15, u97_18, u97_19, u97_22, u97_24, u97_25, u97_26, u97_27, u97_28, u97_29, u97_32, u97_35, u97_38, u97_39, u97_42, u97_43, u97_46, u97_47, u97_50, u97_53, u97_54, u97_55, u97_58, u97_61, u97_64, u97_65, u97_66, u97_69, ↓br_eq, ↓reduceIte, gd_true, ls_0, ls_1i, ls_1r, ls_1n, ls_1l, ls_2, ls2_eq, List.set_cons_zero, List.set_cons_succ, rf_s, cs_nil, cs_int, cs_ref, cs_long, Option.bind_some, Option.toList_some, Option.toList_none, List.nil_append, List.cons_append, Nat.reduceAdd, Nat.reduceSub, Nat.reduceMul, Nat.reduceLT, Nat.reduceLeDiff, Nat.reduceEqDiff, Int32.reduceAdd, Int32.reduceSub, Int32.reduceMul, Int32.reduceLT, Int32.reduceLE, Int32.reduceToInt, Int32.reduceToNatClampNeg, Int.reduceLE, Int.reduceLT, Int.reduceSub, Int.reduceToNat, and_self, true_and, and_true, or_true, true_or, false_or, or_false, false_and, and_false, not_false_eq_true, not_true_eq_false, eq_self, ↓li_m1, li_0, li_1, li_2, li_3, li_4, li_5, li_6, li_7, li_8, li_10, li_11, li_12, li_13, li_14, li_16, li_20, li_21, li_22, li_23, li_24, li_26, li_32, li_40, li_42, li_46, li_48, li_56, li_57, li_59, li_64, li_72, li_97, li_100, li_102, li_106, li_110, li_119, li_122, li_127, li_194, li_224, li_255, li_300, li_320, li_388, li_500, li_832, li_1000, ltT, ltF, leT, leF, eqT, eqF, eqmF, eqmF2, mlt, mle, mlt2, mle2, inT, cl, sbN, adm, mad, nI_add, pk_mul, dvN, rmN, rmN2, ofN, bo1, bo0, xle, xlt, xnl, xnt, xgt, xgt2, xge, xge0, xmo, dmN, kS0, lS0, kS1, lS1, kS2, lS2, kS3, lS3, kS4, lS4, kS5, lS5, kS6, lS6, kS7, lS7, kS8, fS8_0, fS8_1, fS8_2, fS8_3, fS8_4, fS8_5, fS8_6, fS8_7, fS8_8, fS8_9, kS9, lS9, fS9_0, fS9_1, fS9_2, fS9_3, fS9_4, fS9_5, fS9_6, fS9_7, kS10, fS10_0, fS10_1, kS11, fS11_0, kS12, lS12, kS13, fS13_5, fS13_6, fS13_7, fS13_8, fS13_9, kS14, lS14, kS15, lS15, kS16, lS16, kS17, lS17, kS18, lS18, kS19, fS19_5, fS19_6, fS19_7, fS19_8, fS19_9, kS20, lS20, kS21, lS21, kS22, lS22, kS23, lS23, kS24, lS24, kS25, lS25, fS25_0, fS25_1, kS26, kS27, fS27_3, fS27_4, fS27_5, kS28, lS28, kS29, lS29, kS30, lS30, kS31, fS31_3, fS31_4, kS32, lS32, kS33, lS33, kS34, fS34_3, fS34_4, kS35, lS35, kS36, lS36, kS37, kS38, fS38_0, kS39, lS39, kS40, fS40_0, kS41, lS41, kS42, fS42_0, kS43, lS43, kS44, fS44_0, kS45, lS45, kS46, fS46_0, kS47, lS47, kS48, fS48_0, kS49, lS49, kS50, fS50_0, kS51, lS51, kS52, fS52_0, kS53, lS53, kS54, fS54_0, kS55, lS55, kS56, fS56_5, fS56_6, fS56_7, fS56_8, fS56_9, kS57, lS57, kS58, lS58, kS59, lS59, kS60, lS60, kS61, lS61, kS62, fS62_5, fS62_6, fS62_7, fS62_8, fS62_9, kS63, lS63, kS64, lS64, kS65, lS65, kS66, lS66, kS67, lS67, kS68, fS68_2, fS68_3, fS68_4, fS68_5, fS68_6, fS68_8, fS68_18, fS68_19, fS68_21, fS68_22, fS68_23, fS68_24, fS68_25, fS68_26, fS68_27, fS68_28, fS68_30, fS68_32, fS68_33, fS68_34, fS68_35, kS69, lS69, kS70, lS70, kS71, lS71, kS72, lS72, kS73, lS73, kS74, lS74, kS75, lS75, kS76, lS76, kS77, lS77, kS78, lS78, kS79, lS79, kS80, lS80, kS81, lS81, kS82, lS82, kS83, lS83, kS84, lS84, kS85, lS85, kS86, lS86, kS87, lS87, kS88, lS88, kS89, lS89, a1]
    · simp (disch := first | assumption | omega) only [c191, u191_0, u191_1, u191_2, u191_5, u191_6, u191_7, u191_10, u191_13, u191_14, u191_17, u191_18, u191_19, u191_20, u191_23, u191_25, u191_26, u191_27, u191_28, u191_31, u191_32, u191_33, u191_34, u191_35, u191_36, u191_37, u191_38, u191_39, u191_40, u191_42, u191_45, u191_46, u191_49, u191_50, u191_51, u191_52, u191_55, u191_56, u191_57, u191_60, u191_63, u191_64, u191_65, u191_68, u191_71, u191_72, u191_75, u191_76, u191_77, u191_78, u191_79, u191_82, u191_83, u191_84, u191_86, u191_88, u191_89, u191_92, u191_93, u191_96, u191_97, u191_98, u191_100, u191_102, u191_104, u191_105, u191_106, u191_109, u191_110, u191_112, u191_113, u191_115, u191_116, u191_118, u191_119, u191_122, u191_123, u191_124, u191_125, u191_128, u191_130, u191_133, u191_134, u191_137, u191_138, u191_141, u191_143, u191_144, u191_147, u191_148, u191_149, u191_152, u191_154, u191_156, u191_157, u191_158, u191_161, u191_162, u191_163, u191_166, u191_168, u191_170, u191_171, u191_172, u191_175, u191_177, u191_178, u191_181, u191_182, u191_185, u191_186, u191_188, u191_190, u191_193, u191_194, u191_197, u191_198, u191_199, u191_200, u191_203, u191_205, u191_208, u191_210, u191_212, u191_213, u191_214, u191_217, u191_218, u191_219, u191_222, u191_223, u191_226, u191_227, u191_229, u191_231, u191_234, u191_235, u191_238, u191_240, u191_243, u191_244, u191_245, u191_248, u191_250, u191_253, u191_255, u191_256, u191_259, u191_262, u191_265, u191_268, u191_270, ↓br_eq, ↓reduceIte, gd_true, ls_0, ls_1i, ls_1r, ls_1n, ls_1l, ls_2, ls2_eq, List.set_cons_zero, List.set_cons_succ, rf_s, cs_nil, cs_int, cs_ref, cs_long, Option.bind_some, Option.toList_some, Option.toList_none, List.nil_append, List.cons_append, Nat.reduceAdd, Nat.reduceSub, Nat.reduceMul, Nat.reduceLT, Nat.reduceLeDiff, Nat.reduceEqDiff, Int32.reduceAdd, Int32.reduceSub, Int32.reduceMul, Int32.reduceLT, Int32.reduceLE, Int32.reduceToInt, Int32.reduceToNatClampNeg, Int.reduceLE, Int.reduceLT, Int.reduceSub, Int.reduceToNat, and_self, true_and, and_true, or_true, true_or, false_or, or_false, false_and, and_false, not_false_eq_true, not_true_eq_false, eq_self, ↓li_m1, li_0, li_1, li_2, li_3, li_4, li_5, li_6, li_7, li_8, li_10, li_11, li_12, li_13, li_14, li_16, li_20, li_21, li_22, li_23, li_24, li_26, li_32, li_40, li_42, li_46, li_48, li_56, li_57, li_59, li_64, li_72, li_97, li_100, li_102, li_106, li_110, li_119, li_122, li_127, li_194, li_224, li_255, li_300, li_320, li_388, li_500, li_832, li_1000, ltT, ltF, leT, leF, eqT, eqF, eqmF, eqmF2, mlt, mle, mlt2, mle2, inT, cl, sbN, adm, mad, nI_add, pk_mul, dvN, rmN, rmN2, ofN, bo1, bo0, xle, xlt, xnl, xnt, xgt, xgt2, xge, xge0, xmo, dmN, kS0, lS0, kS1, lS1, kS2, lS2, kS3, lS3, kS4, lS4, kS5, lS5, kS6, lS6, kS7, lS7, kS8, fS8_0, fS8_1, fS8_2, fS8_3, fS8_4, fS8_5, fS8_6, fS8_7, fS8_8, fS8_9, kS9, lS9, fS9_0, fS9_1, fS9_2, fS9_3, fS9_4, fS9_5, fS9_6, fS9_7, kS10, fS10_0, fS10_1, kS11, fS11_0, kS12, lS12, kS13, fS13_5, fS13_6, fS13_7, fS13_8, fS13_9, kS14, lS14, kS15, lS15, kS16, lS16, kS17, lS17, kS18, lS18, kS19, fS19_5, fS19_6, fS19_7, fS19_8, fS19_9, kS20, lS20, kS21, lS21, kS22, lS22, kS23, lS23, kS24, lS24, kS25, lS25, fS25_0, fS25_1, kS26, kS27, fS27_3, fS27_4, fS27_5, kS28, lS28, kS29, lS29, kS30, lS30, kS31, fS31_3, fS31_4, kS32, lS32, kS33, lS33, kS34, fS34_3, fS34_4, kS35, lS35, kS36, lS36, kS37, kS38, fS38_0, kS39, lS39, kS40, fS40_0, kS41, lS41, kS42, fS42_0, kS43, lS43, kS44, fS44_0, kS45, lS45, kS46, fS46_0, kS47, lS47, kS48, fS48_0, kS49, lS49, kS50, fS50_0, kS51, lS51, kS52, fS52_0, kS53, lS53, kS54, fS54_0, kS55, lS55, kS56, fS56_5, fS56_6, fS56_7, fS56_8, fS56_9, kS57, lS57, kS58, lS58, kS59, lS59, kS60, lS60, kS61, lS61, kS62, fS62_5, fS62_6, fS62_7, fS62_8, fS62_9, kS63, lS63, kS64, lS64, kS65, lS65, kS66, lS66, kS67, lS67, kS68, fS68_2, fS68_3, fS68_4, fS68_5, fS68_6, fS68_8, fS68_18, fS68_19, fS68_21, fS68_22, fS68_23, fS68_24, fS68_25, fS68_26, fS68_27, fS68_28, fS68_30, fS68_32, fS68_33, fS68_34, fS68_35, kS69, lS69, kS70, lS70, kS71, lS71, kS72, lS72, kS73, lS73, kS74, lS74, kS75, lS75, kS76, lS76, kS77, lS77, kS78, lS78, kS79, lS79, kS80, lS80, kS81, lS81, kS82, lS82, kS83, lS83, kS84, lS84, kS85, lS85, kS86, lS86, kS87, lS87, kS88, lS88, kS89, lS89, b1]
  · have a1 := mn_26x G (Or.inr hx) L 998
    have b1 := mn_160x D.1 (Or.inr hx) L 997
    refine stp_bad H (v := -1000001) ?_ ?_
    · simp (disch := first | assumption | omega) only [c97, u97_0, u97_1, u97_4, u97_5, u97_8, u97_11, u97_12, u97_15, u97_18, u97_19, u97_22, u97_24, u97_25, u97_26, u97_27, u97_28, u97_29, u97_32, u97_35, u97_38, u97_39, u97_42, u97_43, u97_46, u97_47, u97_50, u97_53, u97_54, u97_55, u97_58, u97_61, u97_64, u97_65, u97_66, u97_69, ↓br_eq, ↓reduceIte, gd_true, ls_0, ls_1i, ls_1r, ls_1n, ls_1l, ls_2, ls2_eq, List.set_cons_zero, List.set_cons_succ, rf_s, cs_nil, cs_int, cs_ref, cs_long, Option.bind_some, Option.toList_some, Option.toList_none, List.nil_append, List.cons_append, Nat.reduceAdd, Nat.reduceSub, Nat.reduceMul, Nat.reduceLT, Nat.reduceLeDiff, Nat.reduceEqDiff, Int32.reduceAdd, Int32.reduceSub, Int32.reduceMul, Int32.reduceLT, Int32.reduceLE, Int32.reduceToInt, Int32.reduceToNatClampNeg, Int.reduceLE, Int.reduceLT, Int.reduceSub, Int.reduceToNat, and_self, true_and, and_true, or_true, true_or, false_or, or_false, false_and, and_false, not_false_eq_true, not_true_eq_false, eq_self, ↓li_m1, li_0, li_1, li_2, li_3, li_4, li_5, li_6, li_7, li_8, li_10, li_11, li_12, li_13, li_14, li_16, li_20, li_21, li_22, li_23, li_24, li_26, li_32, li_40, li_42, li_46, li_48, li_56, li_57, li_59, li_64, li_72, li_97, li_100, li_102, li_106, li_110, li_119, li_122, li_127, li_194, li_224, li_255, li_300, li_320, li_388, li_500, li_832, li_1000, ltT, ltF, leT, leF, eqT, eqF, eqmF, eqmF2, mlt, mle, mlt2, mle2, inT, cl, sbN, adm, mad, nI_add, pk_mul, dvN, rmN, rmN2, ofN, bo1, bo0, xle, xlt, xnl, xnt, xgt, xgt2, xge, xge0, xmo, dmN, kS0, lS0, kS1, lS1, kS2, lS2, kS3, lS3, kS4, lS4, kS5, lS5, kS6, lS6, kS7, lS7, kS8, fS8_0, fS8_1, fS8_2, fS8_3, fS8_4, fS8_5, fS8_6, fS8_7, fS8_8, fS8_9, kS9, lS9, fS9_0, fS9_1, fS9_2, fS9_3, fS9_4, fS9_5, fS9_6, fS9_7, kS10, fS10_0, fS10_1, kS11, fS11_0, kS12, lS12, kS13, fS13_5, fS13_6, fS13_7, fS13_8, fS13_9, kS14, lS14, kS15, lS15, kS16, lS16, kS17, lS17, kS18, lS18, kS19, fS19_5, fS19_6, fS19_7, fS19_8, fS19_9, kS20, lS20, kS21, lS21, kS22, lS22, kS23, lS23, kS24, lS24, kS25, lS25, fS25_0, fS25_1, kS26, kS27, fS27_3, fS27_4, fS27_5, kS28, lS28, kS29, lS29, kS30, lS30, kS31, fS31_3, fS31_4, kS32, lS32, kS33, lS33, kS34, fS34_3, fS34_4, kS35, lS35, kS36, lS36, kS37, kS38, fS38_0, kS39, lS39, kS40, fS40_0, kS41, lS41, kS42, fS42_0, kS43, lS43, kS44, fS44_0, kS45, lS45, kS46, fS46_0, kS47, lS47, kS48, fS48_0, kS49, lS49, kS50, fS50_0, kS51, lS51, kS52, fS52_0, kS53, lS53, kS54, fS54_0, kS55, lS55, kS56, fS56_5, fS56_6, fS56_7, fS56_8, fS56_9, kS57, lS57, kS58, lS58, kS59, lS59, kS60, lS60, kS61, lS61, kS62, fS62_5, fS62_6, fS62_7, fS62_8, fS62_9, kS63, lS63, kS64, lS64, kS65, lS65, kS66, lS66, kS67, lS67, kS68, fS68_2, fS68_3, fS68_4, fS68_5, fS68_6, fS68_8, fS68_18, fS68_19, fS68_21, fS68_22, fS68_23, fS68_24, fS68_25, fS68_26, fS68_27, fS68_28, fS68_30, fS68_32, fS68_33, fS68_34, fS68_35, kS69, lS69, kS70, lS70, kS71, lS71, kS72, lS72, kS73, lS73, kS74, lS74, kS75, lS75, kS76, lS76, kS77, lS77, kS78, lS78, kS79, lS79, kS80, lS80, kS81, lS81, kS82, lS82, kS83, lS83, kS84, lS84, kS85, lS85, kS86, lS86, kS87, lS87, kS88, lS88, kS89, lS89, a1]
    · simp (disch := first | assumption | omega) only [c191, u191_0, u191_1, u191_2, u191_5, u191_6, u191_7, u191_10, u191_13, u191_14, u191_17, u191_18, u191_19, u191_20, u191_23, u191_25, u191_26, u191_27, u191_28, u191_31, u191_32, u191_33, u191_34, u191_35, u191_36, u191_37, u191_38, u191_39, u191_40, u191_42, u191_45, u191_46, u191_49, u191_50, u191_51, u191_52, u191_55, u191_56, u191_57, u191_60, u191_63, u191_64, u191_65, u191_68, u191_71, u191_72, u191_75, u191_76, u191_77, u191_78, u191_79, u191_82, u191_83, u191_84, u191_86, u191_88, u191_89, u191_92, u191_93, u191_96, u191_97, u191_98, u191_100, u191_102, u191_104, u191_105, u191_106, u191_109, u191_110, u191_112, u191_113, u191_115, u191_116, u191_118, u191_119, u191_122, u191_123, u191_124, u191_125, u191_128, u191_130, u191_133, u191_134, u191_137, u191_138, u191_141, u191_143, u191_144, u191_147, u191_148, u191_149, u191_152, u191_154, u191_156, u191_157, u191_158, u191_161, u191_162, u191_163, u191_166, u191_168, u191_170, u191_171, u191_172, u191_175, u191_177, u191_178, u191_181, u191_182, u191_185, u191_186, u191_188, u191_190, u191_193, u191_194, u191_197, u191_198, u191_199, u191_200, u191_203, u191_205, u191_208, u191_210, u191_212, u191_213, u191_214, u191_217, u191_218, u191_219, u191_222, u191_223, u191_226, u191_227, u191_229, u191_231, u191_234, u191_235, u191_238, u191_240, u191_243, u191_244, u191_245, u191_248, u191_250, u191_253, u191_255, u191_256, u191_259, u191_262, u191_265, u191_268, u191_270, ↓br_eq, ↓reduceIte, gd_true, ls_0, ls_1i, ls_1r, ls_1n, ls_1l, ls_2, ls2_eq, List.set_cons_zero, List.set_cons_succ, rf_s, cs_nil, cs_int, cs_ref, cs_long, Option.bind_some, Option.toList_some, Option.toList_none, List.nil_append, List.cons_append, Nat.reduceAdd, Nat.reduceSub, Nat.reduceMul, Nat.reduceLT, Nat.reduceLeDiff, Nat.reduceEqDiff, Int32.reduceAdd, Int32.reduceSub, Int32.reduceMul, Int32.reduceLT, Int32.reduceLE, Int32.reduceToInt, Int32.reduceToNatClampNeg, Int.reduceLE, Int.reduceLT, Int.reduceSub, Int.reduceToNat, and_self, true_and, and_true, or_true, true_or, false_or, or_false, false_and, and_false, not_false_eq_true, not_true_eq_false, eq_self, ↓li_m1, li_0, li_1, li_2, li_3, li_4, li_5, li_6, li_7, li_8, li_10, li_11, li_12, li_13, li_14, li_16, li_20, li_21, li_22, li_23, li_24, li_26, li_32, li_40, li_42, li_46, li_48, li_56, li_57, li_59, li_64, li_72, li_97, li_100, li_102, li_106, li_110, li_119, li_122, li_127, li_194, li_224, li_255, li_300, li_320, li_388, li_500, li_832, li_1000, ltT, ltF, leT, leF, eqT, eqF, eqmF, eqmF2, mlt, mle, mlt2, mle2, inT, cl, sbN, adm, mad, nI_add, pk_mul, dvN, rmN, rmN2, ofN, bo1, bo0, xle, xlt, xnl, xnt, xgt, xgt2, xge, xge0, xmo, dmN, kS0, lS0, kS1, lS1, kS2, lS2, kS3, lS3, kS4, lS4, kS5, lS5, kS6, lS6, kS7, lS7, kS8, fS8_0, fS8_1, fS8_2, fS8_3, fS8_4, fS8_5, fS8_6, fS8_7, fS8_8, fS8_9, kS9, lS9, fS9_0, fS9_1, fS9_2, fS9_3, fS9_4, fS9_5, fS9_6, fS9_7, kS10, fS10_0, fS10_1, kS11, fS11_0, kS12, lS12, kS13, fS13_5, fS13_6, fS13_7, fS13_8, fS13_9, kS14, lS14, kS15, lS15, kS16, lS16, kS17, lS17, kS18, lS18, kS19, fS19_5, fS19_6, fS19_7, fS19_8, fS19_9, kS20, lS20, kS21, lS21, kS22, lS22, kS23, lS23, kS24, lS24, kS25, lS25, fS25_0, fS25_1, kS26, kS27, fS27_3, fS27_4, fS27_5, kS28, lS28, kS29, lS29, kS30, lS30, kS31, fS31_3, fS31_4, kS32, lS32, kS33, lS33, kS34, fS34_3, fS34_4, kS35, lS35, kS36, lS36, kS37, kS38, fS38_0, kS39, lS39, kS40, fS40_0, kS41, lS41, kS42, fS42_0, kS43, lS43, kS44, fS44_0, kS45, lS45, kS46, fS46_0, kS47, lS47, kS48, fS48_0, kS49, lS49, kS50, fS50_0, kS51, lS51, kS52, fS52_0, kS53, lS53, kS54, fS54_0, kS55, lS55, kS56, fS56_5, fS56_6, fS56_7, fS56_8, fS56_9, kS57, lS57, kS58, lS58, kS59, lS59, kS60, lS60, kS61, lS61, kS62, fS62_5, fS62_6, fS62_7, fS62_8, fS62_9, kS63, lS63, kS64, lS64, kS65, lS65, kS66, lS66, kS67, lS67, kS68, fS68_2, fS68_3, fS68_4, fS68_5, fS68_6, fS68_8, fS68_18, fS68_19, fS68_21, fS68_22, fS68_23, fS68_24, fS68_25, fS68_26, fS68_27, fS68_28, fS68_30, fS68_32, fS68_33, fS68_34, fS68_35, kS69, lS69, kS70, lS70, kS71, lS71, kS72, lS72, kS73, lS73, kS74, lS74, kS75, lS75, kS76, lS76, kS77, lS77, kS78, lS78, kS79, lS79, kS80, lS80, kS81, lS81, kS82, lS82, kS83, lS83, kS84, lS84, kS85, lS85, kS86, lS86, kS87, lS87, kS88, lS88, kS89, lS89, b1]
  have a1 := mn_26 G hm L 998
  have eM := G.m
  by_cases m3 : qM (h.1 72) ≤ 3
  · obtain ⟨h1, p1, p2, p3, p4⟩ := z97 (g := h.1 72) (nI m) L (qM (h.1 72)) 0 (by omega) h G H.str H.bt (fun j hj => by omega)
    have G1 := G.lrn p2
    have D1 := H.hd.lrn p2
    obtain ⟨h2, s2, ref⟩ := k191 m3 hm D1 L 991
    have hI := Inv_lr H p2 p3 s2
    have z1 : h1.1 0 = h.1 0 := funext fun j => p2.1 0 j (by omega) (by omega) (by omega)
    have z2 : h2.1 0 = h.1 0 := funext fun j => (s2.1 0 j (by omega) (by omega)).trans (p2.1 0 j (by omega) (by omega) (by omega))
    have cl1 : ∀ v, call 998 119 [.ref 8, .int (nI m)] (S0 L) h1 = some (some (.int v), S0 L, h1) → call 999 97 [.ref 8, .int (nI m)] (S0 L) h = some (some (.int v), S0 L, h1) := fun v hv => by
      simp (disch := first | assumption | omega) only [c97, u97_0, u97_1, u97_4, u97_5, u97_8, u97_11, u97_12, u97_15, u97_18, u97_19, u97_22, u97_24, u97_25, u97_26, u97_28, u97_29, u97_32, u97_35, u97_38, u97_39, u97_42, u97_43, u97_46, u97_47, u97_50, u97_53, u97_54, u97_55, u97_58, u97_61, u97_64, u97_65, u97_66, u97_69, ↓br_eq, ↓reduceIte, gd_true, ls_0, ls_1i, ls_1r, ls_1n, ls_1l, ls_2, ls2_eq, List.set_cons_zero, List.set_cons_succ, rf_s, cs_nil, cs_int, cs_ref, cs_long, Option.bind_some, Option.toList_some, Option.toList_none, List.nil_append, List.cons_append, Nat.reduceAdd, Nat.reduceSub, Nat.reduceMul, Nat.reduceLT, Nat.reduceLeDiff, Nat.reduceEqDiff, Int32.reduceAdd, Int32.reduceSub, Int32.reduceMul, Int32.reduceLT, Int32.reduceLE, Int32.reduceToInt, Int32.reduceToNatClampNeg, Int.reduceLE, Int.reduceLT, Int.reduceSub, Int.reduceToNat, and_self, true_and, and_true, or_true, true_or, false_or, or_false, false_and, and_false, not_false_eq_true, not_true_eq_false, eq_self, ↓li_m1, li_0, li_1, li_2, li_3, li_4, li_5, li_6, li_7, li_8, li_10, li_11, li_12, li_13, li_14, li_16, li_20, li_21, li_22, li_23, li_24, li_26, li_32, li_40, li_42, li_46, li_48, li_56, li_57, li_59, li_64, li_72, li_97, li_100, li_102, li_106, li_110, li_119, li_122, li_127, li_194, li_224, li_255, li_300, li_320, li_388, li_500, li_832, li_1000, ltT, ltF, leT, leF, eqT, eqF, eqmF, eqmF2, mlt, mle, mlt2, mle2, inT, cl, sbN, adm, mad, nI_add, pk_mul, dvN, rmN, rmN2, ofN, bo1, bo0, xle, xlt, xnl, xnt, xgt, xgt2, xge, xge0, xmo, dmN, kS0, lS0, kS1, lS1, kS2, lS2, kS3, lS3, kS4, lS4, kS5, lS5, kS6, lS6, kS7, lS7, kS8, fS8_0, fS8_1, fS8_2, fS8_3, fS8_4, fS8_5, fS8_6, fS8_7, fS8_8, fS8_9, kS9, lS9, fS9_0, fS9_1, fS9_2, fS9_3, fS9_4, fS9_5, fS9_6, fS9_7, kS10, fS10_0, fS10_1, kS11, fS11_0, kS12, lS12, kS13, fS13_5, fS13_6, fS13_7, fS13_8, fS13_9, kS14, lS14, kS15, lS15, kS16, lS16, kS17, lS17, kS18, lS18, kS19, fS19_5, fS19_6, fS19_7, fS19_8, fS19_9, kS20, lS20, kS21, lS21, kS22, lS22, kS23, lS23, kS24, lS24, kS25, lS25, fS25_0, fS25_1, kS26, kS27, fS27_3, fS27_4, fS27_5, kS28, lS28, kS29, lS29, kS30, lS30, kS31, fS31_3, fS31_4, kS32, lS32, kS33, lS33, kS34, fS34_3, fS34_4, kS35, lS35, kS36, lS36, kS37, kS38, fS38_0, kS39, lS39, kS40, fS40_0, kS41, lS41, kS42, fS42_0, kS43, lS43, kS44, fS44_0, kS45, lS45, kS46, fS46_0, kS47, lS47, kS48, fS48_0, kS49, lS49, kS50, fS50_0, kS51, lS51, kS52, fS52_0, kS53, lS53, kS54, fS54_0, kS55, lS55, kS56, fS56_5, fS56_6, fS56_7, fS56_8, fS56_9, kS57, lS57, kS58, lS58, kS59, lS59, kS60, lS60, kS61, lS61, kS62, fS62_5, fS62_6, fS62_7, fS62_8, fS62_9, kS63, lS63, kS64, lS64, kS65, lS65, kS66, lS66, kS67, lS67, kS68, fS68_2, fS68_3, fS68_4, fS68_5, fS68_6, fS68_8, fS68_18, fS68_19, fS68_21, fS68_22, fS68_23, fS68_24, fS68_25, fS68_26, fS68_27, fS68_28, fS68_30, fS68_32, fS68_33, fS68_34, fS68_35, kS69, lS69, kS70, lS70, kS71, lS71, kS72, lS72, kS73, lS73, kS74, lS74, kS75, lS75, kS76, lS76, kS77, lS77, kS78, lS78, kS79, lS79, kS80, lS80, kS81, lS81, kS82, lS82, kS83, lS83, kS84, lS84, kS85, lS85, kS86, lS86, kS87, lS87, kS88, lS88, kS89, lS89, a1, eM, p1, hv]
    have tl := fun s => tW_le G.1 s
    have fin : ∀ v, call 998 119 [.ref 8, .int (nI m)] (S0 L) h1 = some (some (.int v), S0 L, h1) → call 999 191 [.ref 68, .int (nI m)] (S0 L) h1 = some (some (.int v), S0 L, h2) → ∃ r h1 h2, call 999 97 [.ref 8, .int (nI m)] (S0 L) h = some (some (.int r), S0 L, h1) ∧ call 999 191 [.ref 68, .int (nI m)] (S0 L) h1 = some (some (.int r), S0 L, h2) ∧ Inv h2 ∧ h1.1 0 = h.1 0 ∧ h2.1 0 = h.1 0 := fun v h1' h2' => ⟨v, h1, h2, cl1 v h1', h2', hI, z1, z2⟩
    have eA := k118a G1 (show 0 < qM (h.1 72) by omega) p4 (s := 2 ^ qM (h.1 72) - 1) (by have := (p2_le (show qM (h.1 72) ≤ 4 by omega)).2; omega) L 995
    rcases (show qM (h.1 72) = 1 ∨ qM (h.1 72) = 2 ∨ qM (h.1 72) = 3 by omega) with q | q | q
    · have e0 := k120_i G1 p4 (i := 0) (by omega) L 994
      have e1 := k121_i G1 p4 m3 (i := 0) (by omega) (nI (tW (h.1 72) 1)) L 994
      have e2 := k120_o G1 (i := 1) (by omega) (by omega) L 997
      have e3 := k121_o G1 (i := 1) (by omega) (by omega) (nI (tW (h.1 72) 1)) L 997
      have e4 := k120_o G1 (i := 2) (by omega) (by omega) L 997
      have e5 := k121_o G1 (i := 2) (by omega) (by omega) (nI (tW (h.1 72) 1)) L 997
      have t1 := tl 1
      have m0 : m = 0 := by omega
      have d1 : du (h.1 72) 1 = tW (h.1 72) 1 := if_pos (by rw [q]; decide)
      have d2 : du (h.1 72) 2 = 0 := if_neg (by rw [q]; decide)
      have d3 : du (h.1 72) 3 = 0 := if_neg (by rw [q]; decide)
      rw [q] at eA e1 ref
      have t0 : tW (h.1 72) (2 ^ 1 - 1 - 2 ^ 0) = 0 := if_pos rfl
      rw [t0, sbN (by omega), Nat.sub_zero] at e1
      have o1 := k119_o G1 (A := tW (h.1 72) 1) (f0 := tW (h.1 72) 1) (f1 := 0) (f2 := 0) (h0 := tW (h.1 72) 1) (h1 := 0) (h2 := 0) (by omega) m3 L 994 (by rw [q]; exact eA) e0 e1 (by omega) (by omega) e2 e3 (by omega) (by omega) e4 e5 (by omega) (by omega) (by omega) (m := m) (by omega)
      have v1 : shV (tW (h.1 72) 1) (tW (h.1 72) 1) 0 0 0 m = tW (h.1 72) 1 := by
        rw [m0]
        show max (tW (h.1 72) 1) (tW (h.1 72) 1 - 0 - 0) = _
        exact Nat.max_eq_left (by omega)
      rw [v1] at o1
      refine fin _ o1 ?_
      rcases ref with ⟨a, b, r1, r2, r3, r4, r5, r6⟩ | ⟨r1, r2⟩
      · rw [show (2 ^ 1 - 1 : Nat) = 1 from rfl, d1] at r3 r6
        rw [d1] at r1
        have : a = tW (h.1 72) 1 := by omega
        rw [this] at r6
        rw [m0] at r6 ⊢
        exact r6
      · exfalso
        refine r1 (tW (h.1 72) 1) 0 (by omega) (by omega) (by rw [show (2 ^ 1 - 1 : Nat) = 1 from rfl, d1]; omega) ?_
        rw [show (2 ^ 1 - 1 : Nat) = 1 from rfl, d1]
        exact ⟨Or.inl ⟨by omega, by omega⟩, Or.inr rfl, by omega⟩
    · have e0 := k120_i G1 p4 (i := 0) (by omega) L 994
      have e1 := k121_i G1 p4 m3 (i := 0) (by omega) (nI (tW (h.1 72) 3)) L 994
      have e2 := k120_i G1 p4 (i := 1) (by omega) L 994
      have e3 := k121_i G1 p4 m3 (i := 1) (by omega) (nI (tW (h.1 72) 3)) L 994
      have e4 := k120_o G1 (i := 2) (by omega) (by omega) L 997
      have e5 := k121_o G1 (i := 2) (by omega) (by omega) (nI (tW (h.1 72) 3)) L 997
      have t1 := tl 1
      have t2 := tl 2
      have t3 := tl 3
      have d1 : du (h.1 72) 1 = tW (h.1 72) 1 := if_pos (by rw [q]; decide)
      have d2 : du (h.1 72) 2 = tW (h.1 72) 2 := if_pos (by rw [q]; decide)
      have d3 : du (h.1 72) 3 = tW (h.1 72) 3 := if_pos (by rw [q]; decide)
      rw [q] at eA e1 e3 ref
      rw [show (2 ^ 2 - 1 : Nat) = 3 from rfl] at ref eA e1 e3
      rw [show (2 ^ 0 : Nat) = 1 from rfl, show (3 - 1 : Nat) = 2 from rfl] at e1
      rw [show (2 ^ 1 : Nat) = 2 from rfl, show (3 - 2 : Nat) = 1 from rfl] at e3
      rw [show (2 ^ 0 : Nat) = 1 from rfl] at e0
      rw [show (2 ^ 1 : Nat) = 2 from rfl] at e2
      have eA' : call (994 + 3) 118 [.ref 8, .int (nI (2 ^ qM (h.1 72) - 1))] (S0 L) h1 = some (some (.int (nI (tW (h.1 72) 3))), S0 L, h1) := by rw [q]; exact eA
      by_cases ok : okS (tW (h.1 72) 3) (du (h.1 72) 1) (du (h.1 72) 2) (du (h.1 72) 2) (du (h.1 72) 1) 0 (tW (h.1 72) 3)
      · obtain ⟨u1, u2, u3, u4, u5⟩ := pu2_ok d3 ok
        rw [d1, d2] at ok
        unfold okS at ok
        rw [sbN (by omega)] at e1 e3
        have o1 := k119_o G1 (by omega) m3 L 994 eA' e0 e1 (by omega) (by omega) e2 e3 (by omega) (by omega) e4 e5 (by omega) (by omega) (by omega) (m := m) (by omega)
        refine fin _ o1 ?_
        rcases ref with ⟨a, b, r1, r2, r3, r4, r5, r6⟩ | ⟨r1, -⟩
        · rw [d3] at r3 r4 r5 r6
          have k1 := r5 _ _ u1 u2 u3 u4
          have k2 := u5 a b r1 r2 r3 r4
          rw [d1, d2] at k1 k2
          have ea : a = sh1 (tW (h.1 72) 3) (tW (h.1 72) 1) (tW (h.1 72) 3 - tW (h.1 72) 1) 0 := by omega
          have eb : b = sh2 (tW (h.1 72) 3) (tW (h.1 72) 1) (tW (h.1 72) 2) (tW (h.1 72) 3 - tW (h.1 72) 1) 0 := by omega
          rw [r6, ea, eb]
          rfl
        · exact absurd u4 (by have := r1 _ _ u1 u2 (by rw [d3]; exact u3); rw [d3] at this; exact this)
      · have no := pu2_no d3 ok
        rcases ref with ⟨a, b, r1, r2, r3, r4, r5, r6⟩ | ⟨-, r2⟩
        · rw [d3] at r3 r4
          exact absurd r4 (no a b r1 r2 r3)
        · refine fin _ ?_ r2
          rw [d1, d2] at ok
          unfold okS at ok
          by_cases k0 : tW (h.1 72) 2 ≤ tW (h.1 72) 3 ∧ tW (h.1 72) 1 ≤ tW (h.1 72) 3 - tW (h.1 72) 2
          · by_cases k1 : tW (h.1 72) 1 ≤ tW (h.1 72) 3 ∧ tW (h.1 72) 2 ≤ tW (h.1 72) 3 - tW (h.1 72) 1
            · exfalso; omega
            · rw [sbN k0.1] at e1
              exact k119_n1 G1 (by omega) m3 L 994 eA' e0 e1 k0.2 (by omega) e2 e3 (le_sub (by omega) (by omega) (by omega) (by omega)) (nI m)
          · exact k119_n0 G1 (by omega) m3 L 994 eA' e0 e1 (le_sub (by omega) (by omega) (by omega) (by omega)) (nI m)
    · have e0 := k120_i G1 p4 (i := 0) (by omega) L 994
      have e1 := k121_i G1 p4 m3 (i := 0) (by omega) (nI (tW (h.1 72) 7)) L 994
      have e2 := k120_i G1 p4 (i := 1) (by omega) L 994
      have e3 := k121_i G1 p4 m3 (i := 1) (by omega) (nI (tW (h.1 72) 7)) L 994
      have e4 := k120_i G1 p4 (i := 2) (by omega) L 994
      have e5 := k121_i G1 p4 m3 (i := 2) (by omega) (nI (tW (h.1 72) 7)) L 994
      have t1 := tl 1
      have t2 := tl 2
      have t3 := tl 3
      have t4 := tl 4
      have t5 := tl 5
      have t6 := tl 6
      have t7 := tl 7
      have d1 : du (h.1 72) 1 = tW (h.1 72) 1 := if_pos (by rw [q]; decide)
      have d2 : du (h.1 72) 2 = tW (h.1 72) 2 := if_pos (by rw [q]; decide)
      have d3 : du (h.1 72) 3 = tW (h.1 72) 3 := if_pos (by rw [q]; decide)
      have d4 : du (h.1 72) 4 = tW (h.1 72) 4 := if_pos (by rw [q]; decide)
      have d5 : du (h.1 72) 5 = tW (h.1 72) 5 := if_pos (by rw [q]; decide)
      have d6 : du (h.1 72) 6 = tW (h.1 72) 6 := if_pos (by rw [q]; decide)
      have d7 : du (h.1 72) 7 = tW (h.1 72) 7 := if_pos (by rw [q]; decide)
      rw [q] at eA e1 e3 e5 ref
      rw [show (2 ^ 3 - 1 : Nat) = 7 from rfl] at ref eA e1 e3 e5
      rw [show (2 ^ 0 : Nat) = 1 from rfl, show (7 - 1 : Nat) = 6 from rfl] at e1
      rw [show (2 ^ 1 : Nat) = 2 from rfl, show (7 - 2 : Nat) = 5 from rfl] at e3
      rw [show (2 ^ 2 : Nat) = 4 from rfl, show (7 - 4 : Nat) = 3 from rfl] at e5
      rw [show (2 ^ 0 : Nat) = 1 from rfl] at e0
      rw [show (2 ^ 1 : Nat) = 2 from rfl] at e2
      rw [show (2 ^ 2 : Nat) = 4 from rfl] at e4
      have eA' : call (994 + 3) 118 [.ref 8, .int (nI (2 ^ qM (h.1 72) - 1))] (S0 L) h1 = some (some (.int (nI (tW (h.1 72) 7))), S0 L, h1) := by rw [q]; exact eA
      by_cases ok : okS (tW (h.1 72) 7) (du (h.1 72) 1) (du (h.1 72) 6) (du (h.1 72) 2) (du (h.1 72) 5) (du (h.1 72) 4) (du (h.1 72) 3)
      · obtain ⟨u1, u2, u3, u4, u5⟩ := pu3_ok ok
        rw [d1, d2, d3, d4, d5, d6] at ok
        unfold okS at ok
        rw [sbN (by omega)] at e1 e3 e5
        have o1 := k119_o G1 (by omega) m3 L 994 eA' e0 e1 (by omega) (by omega) e2 e3 (by omega) (by omega) e4 e5 (by omega) (by omega) (by omega) (m := m) (by omega)
        refine fin _ o1 ?_
        rcases ref with ⟨a, b, r1, r2, r3, r4, r5, r6⟩ | ⟨r1, -⟩
        · rw [d7] at r3 r4 r5 r6
          have k1 := r5 _ _ u1 u2 u3 u4
          have k2 := u5 a b r1 r2 r3 r4
          rw [d1, d2, d3, d5] at k1 k2
          have ea : a = sh1 (tW (h.1 72) 7) (tW (h.1 72) 1) (tW (h.1 72) 7 - tW (h.1 72) 5) (tW (h.1 72) 7 - tW (h.1 72) 3) := by omega
          have eb : b = sh2 (tW (h.1 72) 7) (tW (h.1 72) 1) (tW (h.1 72) 2) (tW (h.1 72) 7 - tW (h.1 72) 5) (tW (h.1 72) 7 - tW (h.1 72) 3) := by omega
          rw [r6, ea, eb]
          rfl
        · exact absurd u4 (by have := r1 _ _ u1 u2 (by rw [d7]; exact u3); rw [d7] at this; exact this)
      · have no := pu3_no ok
        rcases ref with ⟨a, b, r1, r2, r3, r4, r5, r6⟩ | ⟨-, r2⟩
        · rw [d7] at r3 r4
          exact absurd r4 (no a b r1 r2 r3)
        · refine fin _ ?_ r2
          rw [d1, d2, d3, d4, d5, d6] at ok
          unfold okS at ok
          by_cases k0 : tW (h.1 72) 6 ≤ tW (h.1 72) 7 ∧ tW (h.1 72) 1 ≤ tW (h.1 72) 7 - tW (h.1 72) 6
          · rw [sbN k0.1] at e1
            by_cases k1 : tW (h.1 72) 5 ≤ tW (h.1 72) 7 ∧ tW (h.1 72) 2 ≤ tW (h.1 72) 7 - tW (h.1 72) 5
            · rw [sbN k1.1] at e3
              by_cases k2 : tW (h.1 72) 3 ≤ tW (h.1 72) 7 ∧ tW (h.1 72) 4 ≤ tW (h.1 72) 7 - tW (h.1 72) 3
              · rw [sbN k2.1] at e5
                exact k119_n3 G1 (by omega) m3 L 994 eA' e0 e1 k0.2 (by omega) e2 e3 k1.2 (by omega) e4 e5 k2.2 (by omega) (by omega) (nI m)
              · exact k119_n2 G1 (by omega) m3 L 994 eA' e0 e1 k0.2 (by omega) e2 e3 k1.2 (by omega) e4 e5 (le_sub (by omega) (by omega) (by omega) (by omega)) (nI m)
            · exact k119_n1 G1 (by omega) m3 L 994 eA' e0 e1 k0.2 (by omega) e2 e3 (le_sub (by omega) (by omega) (by omega) (by omega)) (nI m)
          · exact k119_n0 G1 (by omega) m3 L 994 eA' e0 e1 (le_sub (by omega) (by omega) (by omega) (by omega)) (nI m)
  · have eM' := D.1.m
    have b1 := mn_160 D.1 hm L 997
    refine stp_bad H (v := -1000001) ?_ ?_
    · simp (disch := first | assumption | omega) only [c97, u97_0, u97_1, u97_4, u97_5, u97_8, u97_11, u97_12, u97_15, u97_18, u97_19, u97_22, u97_24, u97_25, u97_26, u97_27, u97_28, u97_29, u97_32, u97_35, u97_38, u97_39, u97_42, u97_43, u97_46, u97_47, u97_50, u97_53, u97_54, u97_55, u97_58, u97_61, u97_64, u97_65, u97_66, u97_69, ↓br_eq, ↓reduceIte, gd_true, ls_0, ls_1i, ls_1r, ls_1n, ls_1l, ls_2, ls2_eq, List.set_cons_zero, List.set_cons_succ, rf_s, cs_nil, cs_int, cs_ref, cs_long, Option.bind_some, Option.toList_some, Option.toList_none, List.nil_append, List.cons_append, Nat.reduceAdd, Nat.reduceSub, Nat.reduceMul, Nat.reduceLT, Nat.reduceLeDiff, Nat.reduceEqDiff, Int32.reduceAdd, Int32.reduceSub, Int32.reduceMul, Int32.reduceLT, Int32.reduceLE, Int32.reduceToInt, Int32.reduceToNatClampNeg, Int.reduceLE, Int.reduceLT, Int.reduceSub, Int.reduceToNat, and_self, true_and, and_true, or_true, true_or, false_or, or_false, false_and, and_false, not_false_eq_true, not_true_eq_false, eq_self, ↓li_m1, li_0, li_1, li_2, li_3, li_4, li_5, li_6, li_7, li_8, li_10, li_11, li_12, li_13, li_14, li_16, li_20, li_21, li_22, li_23, li_24, li_26, li_32, li_40, li_42, li_46, li_48, li_56, li_57, li_59, li_64, li_72, li_97, li_100, li_102, li_106, li_110, li_119, li_122, li_127, li_194, li_224, li_255, li_300, li_320, li_388, li_500, li_832, li_1000, ltT, ltF, leT, leF, eqT, eqF, eqmF, eqmF2, mlt, mle, mlt2, mle2, inT, cl, sbN, adm, mad, nI_add, pk_mul, dvN, rmN, rmN2, ofN, bo1, bo0, xle, xlt, xnl, xnt, xgt, xgt2, xge, xge0, xmo, dmN, kS0, lS0, kS1, lS1, kS2, lS2, kS3, lS3, kS4, lS4, kS5, lS5, kS6, lS6, kS7, lS7, kS8, fS8_0, fS8_1, fS8_2, fS8_3, fS8_4, fS8_5, fS8_6, fS8_7, fS8_8, fS8_9, kS9, lS9, fS9_0, fS9_1, fS9_2, fS9_3, fS9_4, fS9_5, fS9_6, fS9_7, kS10, fS10_0, fS10_1, kS11, fS11_0, kS12, lS12, kS13, fS13_5, fS13_6, fS13_7, fS13_8, fS13_9, kS14, lS14, kS15, lS15, kS16, lS16, kS17, lS17, kS18, lS18, kS19, fS19_5, fS19_6, fS19_7, fS19_8, fS19_9, kS20, lS20, kS21, lS21, kS22, lS22, kS23, lS23, kS24, lS24, kS25, lS25, fS25_0, fS25_1, kS26, kS27, fS27_3, fS27_4, fS27_5, kS28, lS28, kS29, lS29, kS30, lS30, kS31, fS31_3, fS31_4, kS32, lS32, kS33, lS33, kS34, fS34_3, fS34_4, kS35, lS35, kS36, lS36, kS37, kS38, fS38_0, kS39, lS39, kS40, fS40_0, kS41, lS41, kS42, fS42_0, kS43, lS43, kS44, fS44_0, kS45, lS45, kS46, fS46_0, kS47, lS47, kS48, fS48_0, kS49, lS49, kS50, fS50_0, kS51, lS51, kS52, fS52_0, kS53, lS53, kS54, fS54_0, kS55, lS55, kS56, fS56_5, fS56_6, fS56_7, fS56_8, fS56_9, kS57, lS57, kS58, lS58, kS59, lS59, kS60, lS60, kS61, lS61, kS62, fS62_5, fS62_6, fS62_7, fS62_8, fS62_9, kS63, lS63, kS64, lS64, kS65, lS65, kS66, lS66, kS67, lS67, kS68, fS68_2, fS68_3, fS68_4, fS68_5, fS68_6, fS68_8, fS68_18, fS68_19, fS68_21, fS68_22, fS68_23, fS68_24, fS68_25, fS68_26, fS68_27, fS68_28, fS68_30, fS68_32, fS68_33, fS68_34, fS68_35, kS69, lS69, kS70, lS70, kS71, lS71, kS72, lS72, kS73, lS73, kS74, lS74, kS75, lS75, kS76, lS76, kS77, lS77, kS78, lS78, kS79, lS79, kS80, lS80, kS81, lS81, kS82, lS82, kS83, lS83, kS84, lS84, kS85, lS85, kS86, lS86, kS87, lS87, kS88, lS88, kS89, lS89, a1, eM]
    · simp (disch := first | assumption | omega) only [c191, u191_0, u191_1, u191_2, u191_5, u191_6, u191_7, u191_10, u191_13, u191_14, u191_17, u191_18, u191_19, u191_20, u191_23, u191_25, u191_26, u191_27, u191_28, u191_31, u191_32, u191_33, u191_34, u191_35, u191_36, u191_37, u191_38, u191_39, u191_40, u191_42, u191_45, u191_46, u191_49, u191_50, u191_51, u191_52, u191_55, u191_56, u191_57, u191_60, u191_63, u191_64, u191_65, u191_68, u191_71, u191_72, u191_75, u191_76, u191_77, u191_78, u191_79, u191_82, u191_83, u191_84, u191_86, u191_88, u191_89, u191_92, u191_93, u191_96, u191_97, u191_98, u191_100, u191_102, u191_104, u191_105, u191_106, u191_109, u191_110, u191_112, u191_113, u191_115, u191_116, u191_118, u191_119, u191_122, u191_123, u191_124, u191_125, u191_128, u191_130, u191_133, u191_134, u191_137, u191_138, u191_141, u191_143, u191_144, u191_147, u191_148, u191_149, u191_152, u191_154, u191_156, u191_157, u191_158, u191_161, u191_162, u191_163, u191_166, u191_168, u191_170, u191_171, u191_172, u191_175, u191_177, u191_178, u191_181, u191_182, u191_185, u191_186, u191_188, u191_190, u191_193, u191_194, u191_197, u191_198, u191_199, u191_200, u191_203, u191_205, u191_208, u191_210, u191_212, u191_213, u191_214, u191_217, u191_218, u191_219, u191_222, u191_223, u191_226, u191_227, u191_229, u191_231, u191_234, u191_235, u191_238, u191_240, u191_243, u191_244, u191_245, u191_248, u191_250, u191_253, u191_255, u191_256, u191_259, u191_262, u191_265, u191_268, u191_270, ↓br_eq, ↓reduceIte, gd_true, ls_0, ls_1i, ls_1r, ls_1n, ls_1l, ls_2, ls2_eq, List.set_cons_zero, List.set_cons_succ, rf_s, cs_nil, cs_int, cs_ref, cs_long, Option.bind_some, Option.toList_some, Option.toList_none, List.nil_append, List.cons_append, Nat.reduceAdd, Nat.reduceSub, Nat.reduceMul, Nat.reduceLT, Nat.reduceLeDiff, Nat.reduceEqDiff, Int32.reduceAdd, Int32.reduceSub, Int32.reduceMul, Int32.reduceLT, Int32.reduceLE, Int32.reduceToInt, Int32.reduceToNatClampNeg, Int.reduceLE, Int.reduceLT, Int.reduceSub, Int.reduceToNat, and_self, true_and, and_true, or_true, true_or, false_or, or_false, false_and, and_false, not_false_eq_true, not_true_eq_false, eq_self, ↓li_m1, li_0, li_1, li_2, li_3, li_4, li_5, li_6, li_7, li_8, li_10, li_11, li_12, li_13, li_14, li_16, li_20, li_21, li_22, li_23, li_24, li_26, li_32, li_40, li_42, li_46, li_48, li_56, li_57, li_59, li_64, li_72, li_97, li_100, li_102, li_106, li_110, li_119, li_122, li_127, li_194, li_224, li_255, li_300, li_320, li_388, li_500, li_832, li_1000, ltT, ltF, leT, leF, eqT, eqF, eqmF, eqmF2, mlt, mle, mlt2, mle2, inT, cl, sbN, adm, mad, nI_add, pk_mul, dvN, rmN, rmN2, ofN, bo1, bo0, xle, xlt, xnl, xnt, xgt, xgt2, xge, xge0, xmo, dmN, kS0, lS0, kS1, lS1, kS2, lS2, kS3, lS3, kS4, lS4, kS5, lS5, kS6, lS6, kS7, lS7, kS8, fS8_0, fS8_1, fS8_2, fS8_3, fS8_4, fS8_5, fS8_6, fS8_7, fS8_8, fS8_9, kS9, lS9, fS9_0, fS9_1, fS9_2, fS9_3, fS9_4, fS9_5, fS9_6, fS9_7, kS10, fS10_0, fS10_1, kS11, fS11_0, kS12, lS12, kS13, fS13_5, fS13_6, fS13_7, fS13_8, fS13_9, kS14, lS14, kS15, lS15, kS16, lS16, kS17, lS17, kS18, lS18, kS19, fS19_5, fS19_6, fS19_7, fS19_8, fS19_9, kS20, lS20, kS21, lS21, kS22, lS22, kS23, lS23, kS24, lS24, kS25, lS25, fS25_0, fS25_1, kS26, kS27, fS27_3, fS27_4, fS27_5, kS28, lS28, kS29, lS29, kS30, lS30, kS31, fS31_3, fS31_4, kS32, lS32, kS33, lS33, kS34, fS34_3, fS34_4, kS35, lS35, kS36, lS36, kS37, kS38, fS38_0, kS39, lS39, kS40, fS40_0, kS41, lS41, kS42, fS42_0, kS43, lS43, kS44, fS44_0, kS45, lS45, kS46, fS46_0, kS47, lS47, kS48, fS48_0, kS49, lS49, kS50, fS50_0, kS51, lS51, kS52, fS52_0, kS53, lS53, kS54, fS54_0, kS55, lS55, kS56, fS56_5, fS56_6, fS56_7, fS56_8, fS56_9, kS57, lS57, kS58, lS58, kS59, lS59, kS60, lS60, kS61, lS61, kS62, fS62_5, fS62_6, fS62_7, fS62_8, fS62_9, kS63, lS63, kS64, lS64, kS65, lS65, kS66, lS66, kS67, lS67, kS68, fS68_2, fS68_3, fS68_4, fS68_5, fS68_6, fS68_8, fS68_18, fS68_19, fS68_21, fS68_22, fS68_23, fS68_24, fS68_25, fS68_26, fS68_27, fS68_28, fS68_30, fS68_32, fS68_33, fS68_34, fS68_35, kS69, lS69, kS70, lS70, kS71, lS71, kS72, lS72, kS73, lS73, kS74, lS74, kS75, lS75, kS76, lS76, kS77, lS77, kS78, lS78, kS79, lS79, kS80, lS80, kS81, lS81, kS82, lS82, kS83, lS83, kS84, lS84, kS85, lS85, kS86, lS86, kS87, lS87, kS88, lS88, kS89, lS89, b1, eM']
