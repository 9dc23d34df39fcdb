/-! the reference goes through them, one ring a call -/
set_option maxRecDepth 100000 in
set_option maxHeartbeats 400000 in
theorem dI_1 (v : Nat) : dI v + nI 1 = nI v := by
  unfold dI
  cases v with
  | zero => rw [if_pos rfl]; exact mad 0
  | succ v => rw [if_neg (by omega), Nat.add_sub_cancel, nI_add]
set_option maxRecDepth 100000 in
set_option maxHeartbeats 400000 in
theorem negsub {a b : Nat} (h : a < b) : -(nI a - nI b) = nI (b - a) := by
  rw [Int32.neg_sub, sbN (by omega)]
set_option maxRecDepth 100000 in
set_option maxHeartbeats 400000 in
theorem k182 {a b : Nat} (ha : a < 64) (hb : b < 64) (d : Nat) (S : aS) (h : aH) : call d 182 [.int (nI a), .int (nI b)] S h = some (some (.int (nI (ds a b))), S, h) := by
  unfold ds
  by_cases q1 : b % 8 ≤ a % 8
  · by_cases q2 : b / 8 ≤ a / 8
    · simp (disch := first | assumption | omega) only [c182, u182_0, u182_1, u182_3, u182_4, u182_5, u182_7, u182_8, u182_9, u182_10, u182_11, u182_13, u182_14, u182_15, u182_17, u182_18, u182_19, u182_20, u182_21, u182_24, u182_25, u182_26, u182_29, u182_30, u182_31, u182_34, u182_35, u182_36, u182_39, u182_40, u182_41, ↓br_eq, ↓reduceIte, gd_true, ls_0, ls_1i, ls_1r, ls_1n, ls_1l, ls_2, ls2_eq, List.set_cons_zero, List.set_cons_succ, rf_s, cs_nil, cs_int, cs_ref, cs_long, Option.bind_some, Option.toList_some, Option.toList_none, List.nil_append, List.cons_append, Nat.reduceAdd, Nat.reduceSub, Nat.reduceMul, Nat.reduceLT, Nat.reduceLeDiff, Nat.reduceEqDiff, Int32.reduceAdd, Int32.reduceSub, Int32.reduceMul, Int32.reduceLT, Int32.reduceLE, Int32.reduceToInt, Int32.reduceToNatClampNeg, Int.reduceLE, Int.reduceLT, Int.reduceSub, Int.reduceToNat, and_self, true_and, and_true, or_true, true_or, false_or, or_false, false_and, and_false, not_false_eq_true, not_true_eq_false, eq_self, ↓li_m1, li_0, li_1, li_2, li_3, li_4, li_5, li_6, li_7, li_8, li_10, li_11, li_12, li_13, li_14, li_16, li_20, li_21, li_22, li_23, li_24, li_26, li_32, li_40, li_42, li_46, li_48, li_56, li_57, li_59, li_64, li_72, li_97, li_100, li_102, li_106, li_110, li_119, li_122, li_127, li_194, li_224, li_255, li_300, li_320, li_388, li_500, li_832, li_1000, ltT, ltF, leT, leF, eqT, eqF, eqmF, eqmF2, mlt, mle, mlt2, mle2, inT, cl, sbN, adm, mad, nI_add, pk_mul, dvN, rmN, rmN2, ofN, bo1, bo0, xle, xlt, xnl, xnt, xgt, xgt2, xge, xge0, xmo, dmN, kS0, lS0, kS1, lS1, kS2, lS2, kS3, lS3, kS4, lS4, kS5, lS5, kS6, lS6, kS7, lS7, kS8, fS8_0, fS8_1, fS8_2, fS8_3, fS8_4, fS8_5, fS8_6, fS8_7, fS8_8, fS8_9, kS9, lS9, fS9_0, fS9_1, fS9_2, fS9_3, fS9_4, fS9_5, fS9_6, fS9_7, kS10, fS10_0, fS10_1, kS11, fS11_0, kS12, lS12, kS13, fS13_5, fS13_6, fS13_7, fS13_8, fS13_9, kS14, lS14, kS15, lS15, kS16, lS16, kS17, lS17, kS18, lS18, kS19, fS19_5, fS19_6, fS19_7, fS19_8, fS19_9, kS20, lS20, kS21, lS21, kS22, lS22, kS23, lS23, kS24, lS24, kS25, lS25, fS25_0, fS25_1, kS26, kS27, fS27_3, fS27_4, fS27_5, kS28, lS28, kS29, lS29, kS30, lS30, kS31, fS31_3, fS31_4, kS32, lS32, kS33, lS33, kS34, fS34_3, fS34_4, kS35, lS35, kS36, lS36, kS37, kS38, fS38_0, kS39, lS39, kS40, fS40_0, kS41, lS41, kS42, fS42_0, kS43, lS43, kS44, fS44_0, kS45, lS45, kS46, fS46_0, kS47, lS47, kS48, fS48_0, kS49, lS49, kS50, fS50_0, kS51, lS51, kS52, fS52_0, kS53, lS53, kS54, fS54_0, kS55, lS55, kS56, fS56_5, fS56_6, fS56_7, fS56_8, fS56_9, kS57, lS57, kS58, lS58, kS59, lS59, kS60, lS60, kS61, lS61, kS62, fS62_5, fS62_6, fS62_7, fS62_8, fS62_9, kS63, lS63, kS64, lS64, kS65, lS65, kS66, lS66, kS67, lS67, kS68, fS68_2, fS68_3, fS68_4, fS68_5, fS68_6, fS68_8, fS68_18, fS68_19, fS68_21, fS68_22, fS68_23, fS68_24, fS68_25, fS68_26, fS68_27, fS68_28, fS68_30, fS68_32, fS68_33, fS68_34, fS68_35, kS69, lS69, kS70, lS70, kS71, lS71, kS72, lS72, kS73, lS73, kS74, lS74, kS75, lS75, kS76, lS76, kS77, lS77, kS78, lS78, kS79, lS79, kS80, lS80, kS81, lS81, kS82, lS82, kS83, lS83, kS84, lS84, kS85, lS85, kS86, lS86, kS87, lS87, kS88, lS88, kS89, lS89]
      rw [show b % 8 - a % 8 = 0 by omega, show b / 8 - a / 8 = 0 by omega, Nat.add_zero, Nat.add_zero]
    · have q3 := sub_neg (show a / 8 < b / 8 by omega) (by omega)
      have q4 := negsub (show a / 8 < b / 8 by omega)
      simp (disch := first | assumption | omega) only [c182, u182_0, u182_1, u182_3, u182_4, u182_5, u182_7, u182_8, u182_9, u182_10, u182_11, u182_13, u182_14, u182_15, u182_17, u182_18, u182_19, u182_20, u182_21, u182_24, u182_25, u182_26, u182_29, u182_30, u182_31, u182_34, u182_35, u182_36, u182_39, u182_40, u182_41, ↓br_eq, ↓reduceIte, gd_true, ls_0, ls_1i, ls_1r, ls_1n, ls_1l, ls_2, ls2_eq, List.set_cons_zero, List.set_cons_succ, rf_s, cs_nil, cs_int, cs_ref, cs_long, Option.bind_some, Option.toList_some, Option.toList_none, List.nil_append, List.cons_append, Nat.reduceAdd, Nat.reduceSub, Nat.reduceMul, Nat.reduceLT, Nat.reduceLeDiff, Nat.reduceEqDiff, Int32.reduceAdd, Int32.reduceSub, Int32.reduceMul, Int32.reduceLT, Int32.reduceLE, Int32.reduceToInt, Int32.reduceToNatClampNeg, Int.reduceLE, Int.reduceLT, Int.reduceSub, Int.reduceToNat, and_self, true_and, and_true, or_true, true_or, false_or, or_false, false_and, and_false, not_false_eq_true, not_true_eq_false, eq_self, ↓li_m1, li_0, li_1, li_2, li_3, li_4, li_5, li_6, li_7, li_8, li_10, li_11, li_12, li_13, li_14, li_16, li_20, li_21, li_22, li_23, li_24, li_26, li_32, li_40, li_42, li_46, li_48, li_56, li_57, li_59, li_64, li_72, li_97, li_100, li_102, li_106, li_110, li_119, li_122, li_127, li_194, li_224, li_255, li_300, li_320, li_388, li_500, li_832, li_1000, ltT, ltF, leT, leF, eqT, eqF, eqmF, eqmF2, mlt, mle, mlt2, mle2, inT, cl, sbN, adm, mad, nI_add, pk_mul, dvN, rmN, rmN2, ofN, bo1, bo0, xle, xlt, xnl, xnt, xgt, xgt2, xge, xge0, xmo, dmN, kS0, lS0, kS1, lS1, kS2, lS2, kS3, lS3, kS4, lS4, kS5, lS5, kS6, lS6, kS7, lS7, kS8, fS8_0, fS8_1, fS8_2, fS8_3, fS8_4, fS8_5, fS8_6, fS8_7, fS8_8, fS8_9, kS9, lS9, fS9_0, fS9_1, fS9_2, fS9_3, fS9_4, fS9_5, fS9_6, fS9_7, kS10, fS10_0, fS10_1, kS11, fS11_0, kS12, lS12, kS13, fS13_5, fS13_6, fS13_7, fS13_8, fS13_9, kS14, lS14, kS15, lS15, kS16, lS16, kS17, lS17, kS18, lS18, kS19, fS19_5, fS19_6, fS19_7, fS19_8, fS19_9, kS20, lS20, kS21, lS21, kS22, lS22, kS23, lS23, kS24, lS24, kS25, lS25, fS25_0, fS25_1, kS26, kS27, fS27_3, fS27_4, fS27_5, kS28, lS28, kS29, lS29, kS30, lS30, kS31, fS31_3, fS31_4, kS32, lS32, kS33, lS33, kS34, fS34_3, fS34_4, kS35, lS35, kS36, lS36, kS37, kS38, fS38_0, kS39, lS39, kS40, fS40_0, kS41, lS41, kS42, fS42_0, kS43, lS43, kS44, fS44_0, kS45, lS45, kS46, fS46_0, kS47, lS47, kS48, fS48_0, kS49, lS49, kS50, fS50_0, kS51, lS51, kS52, fS52_0, kS53, lS53, kS54, fS54_0, kS55, lS55, kS56, fS56_5, fS56_6, fS56_7, fS56_8, fS56_9, kS57, lS57, kS58, lS58, kS59, lS59, kS60, lS60, kS61, lS61, kS62, fS62_5, fS62_6, fS62_7, fS62_8, fS62_9, kS63, lS63, kS64, lS64, kS65, lS65, kS66, lS66, kS67, lS67, kS68, fS68_2, fS68_3, fS68_4, fS68_5, fS68_6, fS68_8, fS68_18, fS68_19, fS68_21, fS68_22, fS68_23, fS68_24, fS68_25, fS68_26, fS68_27, fS68_28, fS68_30, fS68_32, fS68_33, fS68_34, fS68_35, kS69, lS69, kS70, lS70, kS71, lS71, kS72, lS72, kS73, lS73, kS74, lS74, kS75, lS75, kS76, lS76, kS77, lS77, kS78, lS78, kS79, lS79, kS80, lS80, kS81, lS81, kS82, lS82, kS83, lS83, kS84, lS84, kS85, lS85, kS86, lS86, kS87, lS87, kS88, lS88, kS89, lS89, q3, q4]
      rw [show b % 8 - a % 8 = 0 by omega, show a / 8 - b / 8 = 0 by omega, Nat.add_zero, Nat.zero_add]
  · have q5 := sub_neg (show a % 8 < b % 8 by omega) (by omega)
    have q6 := negsub (show a % 8 < b % 8 by omega)
    by_cases q2 : b / 8 ≤ a / 8
    · simp (disch := first | assumption | omega) only [c182, u182_0, u182_1, u182_3, u182_4, u182_5, u182_7, u182_8, u182_9, u182_10, u182_11, u182_13, u182_14, u182_15, u182_17, u182_18, u182_19, u182_20, u182_21, u182_24, u182_25, u182_26, u182_29, u182_30, u182_31, u182_34, u182_35, u182_36, u182_39, u182_40, u182_41, ↓br_eq, ↓reduceIte, gd_true, ls_0, ls_1i, ls_1r, ls_1n, ls_1l, ls_2, ls2_eq, List.set_cons_zero, List.set_cons_succ, rf_s, cs_nil, cs_int, cs_ref, cs_long, Option.bind_some, Option.toList_some, Option.toList_none, List.nil_append, List.cons_append, Nat.reduceAdd, Nat.reduceSub, Nat.reduceMul, Nat.reduceLT, Nat.reduceLeDiff, Nat.reduceEqDiff, Int32.reduceAdd, Int32.reduceSub, Int32.reduceMul, Int32.reduceLT, Int32.reduceLE, Int32.reduceToInt, Int32.reduceToNatClampNeg, Int.reduceLE, Int.reduceLT, Int.reduceSub, Int.reduceToNat, and_self, true_and, and_true, or_true, true_or, false_or, or_false, false_and, and_false, not_false_eq_true, not_true_eq_false, eq_self, ↓li_m1, li_0, li_1, li_2, li_3, li_4, li_5, li_6, li_7, li_8, li_10, li_11, li_12, li_13, li_14, li_16, li_20, li_21, li_22, li_23, li_24, li_26, li_32, li_40, li_42, li_46, li_48, li_56, li_57, li_59, li_64, li_72, li_97, li_100, li_102, li_106, li_110, li_119, li_122, li_127, li_194, li_224, li_255, li_300, li_320, li_388, li_500, li_832, li_1000, ltT, ltF, leT, leF, eqT, eqF, eqmF, eqmF2, mlt, mle, mlt2, mle2, inT, cl, sbN, adm, mad, nI_add, pk_mul, dvN, rmN, rmN2, ofN, bo1, bo0, xle, xlt, xnl, xnt, xgt, xgt2, xge, xge0, xmo, dmN, kS0, lS0, kS1, lS1, kS2, lS2, kS3, lS3, kS4, lS4, kS5, lS5, kS6, lS6, kS7, lS7, kS8, fS8_0, fS8_1, fS8_2, fS8_3, fS8_4, fS8_5, fS8_6, fS8_7, fS8_8, fS8_9, kS9, lS9, fS9_0, fS9_1, fS9_2, fS9_3, fS9_4, fS9_5, fS9_6, fS9_7, kS10, fS10_0, fS10_1, kS11, fS11_0, kS12, lS12, kS13, fS13_5, fS13_6, fS13_7, fS13_8, fS13_9, kS14, lS14, kS15, lS15, kS16, lS16, kS17, lS17, kS18, lS18, kS19, fS19_5, fS19_6, fS19_7, fS19_8, fS19_9, kS20, lS20, kS21, lS21, kS22, lS22, kS23, lS23, kS24, lS24, kS25, lS25, fS25_0, fS25_1, kS26, kS27, fS27_3, fS27_4, fS27_5, kS28, lS28, kS29, lS29, kS30, lS30, kS31, fS31_3, fS31_4, kS32, lS32, kS33, lS33, kS34, fS34_3, fS34_4, kS35, lS35, kS36, lS36, kS37, kS38, fS38_0, kS39, lS39, kS40, fS40_0, kS41, lS41, kS42, fS42_0, kS43, lS43, kS44, fS44_0, kS45, lS45, kS46, fS46_0, kS47, lS47, kS48, fS48_0, kS49, lS49, kS50, fS50_0, kS51, lS51, kS52, fS52_0, kS53, lS53, kS54, fS54_0, kS55, lS55, kS56, fS56_5, fS56_6, fS56_7, fS56_8, fS56_9, kS57, lS57, kS58, lS58, kS59, lS59, kS60, lS60, kS61, lS61, kS62, fS62_5, fS62_6, fS62_7, fS62_8, fS62_9, kS63, lS63, kS64, lS64, kS65, lS65, kS66, lS66, kS67, lS67, kS68, fS68_2, fS68_3, fS68_4, fS68_5, fS68_6, fS68_8, fS68_18, fS68_19, fS68_21, fS68_22, fS68_23, fS68_24, fS68_25, fS68_26, fS68_27, fS68_28, fS68_30, fS68_32, fS68_33, fS68_34, fS68_35, kS69, lS69, kS70, lS70, kS71, lS71, kS72, lS72, kS73, lS73, kS74, lS74, kS75, lS75, kS76, lS76, kS77, lS77, kS78, lS78, kS79, lS79, kS80, lS80, kS81, lS81, kS82, lS82, kS83, lS83, kS84, lS84, kS85, lS85, kS86, lS86, kS87, lS87, kS88, lS88, kS89, lS89, q5, q6]
      rw [show a % 8 - b % 8 = 0 by omega, show b / 8 - a / 8 = 0 by omega, Nat.add_zero, Nat.zero_add]
    · have q3 := sub_neg (show a / 8 < b / 8 by omega) (by omega)
      have q4 := negsub (show a / 8 < b / 8 by omega)
      simp (disch := first | assumption | omega) only [c182, u182_0, u182_1, u182_3, u182_4, u182_5, u182_7, u182_8, u182_9, u182_10, u182_11, u182_13, u182_14, u182_15, u182_17, u182_18, u182_19, u182_20, u182_21, u182_24, u182_25, u182_26, u182_29, u182_30, u182_31, u182_34, u182_35, u182_36, u182_39, u182_40, u182_41, ↓br_eq, ↓reduceIte, gd_true, ls_0, ls_1i, ls_1r, ls_1n, ls_1l, ls_2, ls2_eq, List.set_cons_zero, List.set_cons_succ, rf_s, cs_nil, cs_int, cs_ref, cs_long, Option.bind_some, Option.toList_some, Option.toList_none, List.nil_append, List.cons_append, Nat.reduceAdd, Nat.reduceSub, Nat.reduceMul, Nat.reduceLT, Nat.reduceLeDiff, Nat.reduceEqDiff, Int32.reduceAdd, Int32.reduceSub, Int32.reduceMul, Int32.reduceLT, Int32.reduceLE, Int32.reduceToInt, Int32.reduceToNatClampNeg, Int.reduceLE, Int.reduceLT, Int.reduceSub, Int.reduceToNat, and_self, true_and, and_true, or_true, true_or, false_or, or_false, false_and, and_false, not_false_eq_true, not_true_eq_false, eq_self, ↓li_m1, li_0, li_1, li_2, li_3, li_4, li_5, li_6, li_7, li_8, li_10, li_11, li_12, li_13, li_14, li_16, li_20, li_21, li_22, li_23, li_24, li_26, li_32, li_40, li_42, li_46, li_48, li_56, li_57, li_59, li_64, li_72, li_97, li_100, li_102, li_106, li_110, li_119, li_122, li_127, li_194, li_224, li_255, li_300, li_320, li_388, li_500, li_832, li_1000, ltT, ltF, leT, leF, eqT, eqF, eqmF, eqmF2, mlt, mle, mlt2, mle2, inT, cl, sbN, adm, mad, nI_add, pk_mul, dvN, rmN, rmN2, ofN, bo1, bo0, xle, xlt, xnl, xnt, xgt, xgt2, xge, xge0, xmo, dmN, kS0, lS0, kS1, lS1, kS2, lS2, kS3, lS3, kS4, lS4, kS5, lS5, kS6, lS6, kS7, lS7, kS8, fS8_0, fS8_1, fS8_2, fS8_3, fS8_4, fS8_5, fS8_6, fS8_7, fS8_8, fS8_9, kS9, lS9, fS9_0, fS9_1, fS9_2, fS9_3, fS9_4, fS9_5, fS9_6, fS9_7, kS10, fS10_0, fS10_1, kS11, fS11_0, kS12, lS12, kS13, fS13_5, fS13_6, fS13_7, fS13_8, fS13_9, kS14, lS14, kS15, lS15, kS16, lS16, kS17, lS17, kS18, lS18, kS19, fS19_5, fS19_6, fS19_7, fS19_8, fS19_9, kS20, lS20, kS21, lS21, kS22, lS22, kS23, lS23, kS24, lS24, kS25, lS25, fS25_0, fS25_1, kS26, kS27, fS27_3, fS27_4, fS27_5, kS28, lS28, kS29, lS29, kS30, lS30, kS31, fS31_3, fS31_4, kS32, lS32, kS33, lS33, kS34, fS34_3, fS34_4, kS35, lS35, kS36, lS36, kS37, kS38, fS38_0, kS39, lS39, kS40, fS40_0, kS41, lS41, kS42, fS42_0, kS43, lS43, kS44, fS44_0, kS45, lS45, kS46, fS46_0, kS47, lS47, kS48, fS48_0, kS49, lS49, kS50, fS50_0, kS51, lS51, kS52, fS52_0, kS53, lS53, kS54, fS54_0, kS55, lS55, kS56, fS56_5, fS56_6, fS56_7, fS56_8, fS56_9, kS57, lS57, kS58, lS58, kS59, lS59, kS60, lS60, kS61, lS61, kS62, fS62_5, fS62_6, fS62_7, fS62_8, fS62_9, kS63, lS63, kS64, lS64, kS65, lS65, kS66, lS66, kS67, lS67, kS68, fS68_2, fS68_3, fS68_4, fS68_5, fS68_6, fS68_8, fS68_18, fS68_19, fS68_21, fS68_22, fS68_23, fS68_24, fS68_25, fS68_26, fS68_27, fS68_28, fS68_30, fS68_32, fS68_33, fS68_34, fS68_35, kS69, lS69, kS70, lS70, kS71, lS71, kS72, lS72, kS73, lS73, kS74, lS74, kS75, lS75, kS76, lS76, kS77, lS77, kS78, lS78, kS79, lS79, kS80, lS80, kS81, lS81, kS82, lS82, kS83, lS83, kS84, lS84, kS85, lS85, kS86, lS86, kS87, lS87, kS88, lS88, kS89, lS89, q3, q4, q5, q6]
      rw [show a % 8 - b % 8 = 0 by omega, show a / 8 - b / 8 = 0 by omega, Nat.zero_add, Nat.zero_add]
set_option maxRecDepth 100000 in
set_option maxHeartbeats 400000 in
theorem pB_or {p q : Prop} : pB (p ∨ q) = (pB p || pB q) := by
  by_cases h1 : p
  · rw [pB_t h1, pB_t (Or.inl h1)]; rfl
  · rw [pB_f h1, Bool.false_or]
    congr 1
    apply propext
    exact ⟨fun z => z.elim (fun y => absurd y h1) id, Or.inr⟩
set_option maxRecDepth 100000 in
set_option maxHeartbeats 400000 in
theorem z183 {h : aH} {e x s : Nat} {A : Nat → Nat} (he : e < 2) (hs : s ≤ 12) (hx : x < 2147483648) (h1 : h.1 81 e = nI s) (hA : ∀ k, k ≤ s → h.1 79 (13 * e + k) = nI (A k) ∧ A k < 2147483648) (L d : Nat) : ∀ (n k : Nat), k + n = s + 1 → ev d 183 5 [.ref 68, .int (nI e), .int (nI x), .int (bi (pB (∃ j, j < k ∧ A j = x))), .int (nI k)] [] (S0 L) h = some (some (.int (bi (pB (∃ j, j ≤ s ∧ A j = x)))), S0 L, h) := by
  intro n
  induction n with
  | zero =>
    intro k hk
    have : k = s + 1 := by omega
    subst this
    have e1 : (∃ j, j < s + 1 ∧ A j = x) = (∃ j, j ≤ s ∧ A j = x) := by
      apply propext
      constructor
      · rintro ⟨j, a, b⟩; exact ⟨j, by omega, b⟩
      · rintro ⟨j, a, b⟩; exact ⟨j, by omega, b⟩
    rw [e1, u183_5]
    cases pB (∃ j, j ≤ s ∧ A j = x) with
    | true => rw [bi_t]; simp (disch := first | assumption | omega) only [u183_0, u183_1, u183_2, u183_3, u183_7, u183_8, u183_11, u183_12, u183_13, u183_16, u183_17, u183_20, u183_21, u183_24, u183_26, u183_27, u183_28, u183_30, u183_31, u183_32, u183_33, u183_36, u183_37, u183_40, u183_41, u183_42, u183_45, u183_48, u183_49, ↓br_eq, ↓reduceIte, gd_true, ls_0, ls_1i, ls_1r, ls_1n, ls_1l, ls_2, ls2_eq, List.set_cons_zero, List.set_cons_succ, rf_s, cs_nil, cs_int, cs_ref, cs_long, Option.bind_some, Option.toList_some, Option.toList_none, List.nil_append, List.cons_append, Nat.reduceAdd, Nat.reduceSub, Nat.reduceMul, Nat.reduceLT, Nat.reduceLeDiff, Nat.reduceEqDiff, Int32.reduceAdd, Int32.reduceSub, Int32.reduceMul, Int32.reduceLT, Int32.reduceLE, Int32.reduceToInt, Int32.reduceToNatClampNeg, Int.reduceLE, Int.reduceLT, Int.reduceSub, Int.reduceToNat, and_self, true_and, and_true, or_true, true_or, false_or, or_false, false_and, and_false, not_false_eq_true, not_true_eq_false, eq_self, ↓li_m1, li_0, li_1, li_2, li_3, li_4, li_5, li_6, li_7, li_8, li_10, li_11, li_12, li_13, li_14, li_16, li_20, li_21, li_22, li_23, li_24, li_26, li_32, li_40, li_42, li_46, li_48, li_56, li_57, li_59, li_64, li_72, li_97, li_100, li_102, li_106, li_110, li_119, li_122, li_127, li_194, li_224, li_255, li_300, li_320, li_388, li_500, li_832, li_1000, ltT, ltF, leT, leF, eqT, eqF, eqmF, eqmF2, mlt, mle, mlt2, mle2, inT, cl, sbN, adm, mad, nI_add, pk_mul, dvN, rmN, rmN2, ofN, bo1, bo0, xle, xlt, xnl, xnt, xgt, xgt2, xge, xge0, xmo, dmN, kS0, lS0, kS1, lS1, kS2, lS2, kS3, lS3, kS4, lS4, kS5, lS5, kS6, lS6, kS7, lS7, kS8, fS8_0, fS8_1, fS8_2, fS8_3, fS8_4, fS8_5, fS8_6, fS8_7, fS8_8, fS8_9, kS9, lS9, fS9_0, fS9_1, fS9_2, fS9_3, fS9_4, fS9_5, fS9_6, fS9_7, kS10, fS10_0, fS10_1, kS11, fS11_0, kS12, lS12, kS13, fS13_5, fS13_6, fS13_7, fS13_8, fS13_9, kS14, lS14, kS15, lS15, kS16, lS16, kS17, lS17, kS18, lS18, kS19, fS19_5, fS19_6, fS19_7, fS19_8, fS19_9, kS20, lS20, kS21, lS21, kS22, lS22, kS23, lS23, kS24, lS24, kS25, lS25, fS25_0, fS25_1, kS26, kS27, fS27_3, fS27_4, fS27_5, kS28, lS28, kS29, lS29, kS30, lS30, kS31, fS31_3, fS31_4, kS32, lS32, kS33, lS33, kS34, fS34_3, fS34_4, kS35, lS35, kS36, lS36, kS37, kS38, fS38_0, kS39, lS39, kS40, fS40_0, kS41, lS41, kS42, fS42_0, kS43, lS43, kS44, fS44_0, kS45, lS45, kS46, fS46_0, kS47, lS47, kS48, fS48_0, kS49, lS49, kS50, fS50_0, kS51, lS51, kS52, fS52_0, kS53, lS53, kS54, fS54_0, kS55, lS55, kS56, fS56_5, fS56_6, fS56_7, fS56_8, fS56_9, kS57, lS57, kS58, lS58, kS59, lS59, kS60, lS60, kS61, lS61, kS62, fS62_5, fS62_6, fS62_7, fS62_8, fS62_9, kS63, lS63, kS64, lS64, kS65, lS65, kS66, lS66, kS67, lS67, kS68, fS68_2, fS68_3, fS68_4, fS68_5, fS68_6, fS68_8, fS68_18, fS68_19, fS68_21, fS68_22, fS68_23, fS68_24, fS68_25, fS68_26, fS68_27, fS68_28, fS68_30, fS68_32, fS68_33, fS68_34, fS68_35, kS69, lS69, kS70, lS70, kS71, lS71, kS72, lS72, kS73, lS73, kS74, lS74, kS75, lS75, kS76, lS76, kS77, lS77, kS78, lS78, kS79, lS79, kS80, lS80, kS81, lS81, kS82, lS82, kS83, lS83, kS84, lS84, kS85, lS85, kS86, lS86, kS87, lS87, kS88, lS88, kS89, lS89, h1]
    | false => rw [bi_f]; simp (disch := first | assumption | omega) only [u183_0, u183_1, u183_2, u183_3, u183_7, u183_8, u183_11, u183_12, u183_13, u183_16, u183_17, u183_20, u183_21, u183_24, u183_26, u183_27, u183_28, u183_30, u183_31, u183_32, u183_33, u183_36, u183_37, u183_40, u183_41, u183_42, u183_45, u183_48, u183_49, ↓br_eq, ↓reduceIte, gd_true, ls_0, ls_1i, ls_1r, ls_1n, ls_1l, ls_2, ls2_eq, List.set_cons_zero, List.set_cons_succ, rf_s, cs_nil, cs_int, cs_ref, cs_long, Option.bind_some, Option.toList_some, Option.toList_none, List.nil_append, List.cons_append, Nat.reduceAdd, Nat.reduceSub, Nat.reduceMul, Nat.reduceLT, Nat.reduceLeDiff, Nat.reduceEqDiff, Int32.reduceAdd, Int32.reduceSub, Int32.reduceMul, Int32.reduceLT, Int32.reduceLE, Int32.reduceToInt, Int32.reduceToNatClampNeg, Int.reduceLE, Int.reduceLT, Int.reduceSub, Int.reduceToNat, and_self, true_and, and_true, or_true, true_or, false_or, or_false, false_and, and_false, not_false_eq_true, not_true_eq_false, eq_self, ↓li_m1, li_0, li_1, li_2, li_3, li_4, li_5, li_6, li_7, li_8, li_10, li_11, li_12, li_13, li_14, li_16, li_20, li_21, li_22, li_23, li_24, li_26, li_32, li_40, li_42, li_46, li_48, li_56, li_57, li_59, li_64, li_72, li_97, li_100, li_102, li_106, li_110, li_119, li_122, li_127, li_194, li_224, li_255, li_300, li_320, li_388, li_500, li_832, li_1000, ltT, ltF, leT, leF, eqT, eqF, eqmF, eqmF2, mlt, mle, mlt2, mle2, inT, cl, sbN, adm, mad, nI_add, pk_mul, dvN, rmN, rmN2, ofN, bo1, bo0, xle, xlt, xnl, xnt, xgt, xgt2, xge, xge0, xmo, dmN, kS0, lS0, kS1, lS1, kS2, lS2, kS3, lS3, kS4, lS4, kS5, lS5, kS6, lS6, kS7, lS7, kS8, fS8_0, fS8_1, fS8_2, fS8_3, fS8_4, fS8_5, fS8_6, fS8_7, fS8_8, fS8_9, kS9, lS9, fS9_0, fS9_1, fS9_2, fS9_3, fS9_4, fS9_5, fS9_6, fS9_7, kS10, fS10_0, fS10_1, kS11, fS11_0, kS12, lS12, kS13, fS13_5, fS13_6, fS13_7, fS13_8, fS13_9, kS14, lS14, kS15, lS15, kS16, lS16, kS17, lS17, kS18, lS18, kS19, fS19_5, fS19_6, fS19_7, fS19_8, fS19_9, kS20, lS20, kS21, lS21, kS22, lS22, kS23, lS23, kS24, lS24, kS25, lS25, fS25_0, fS25_1, kS26, kS27, fS27_3, fS27_4, fS27_5, kS28, lS28, kS29, lS29, kS30, lS30, kS31, fS31_3, fS31_4, kS32, lS32, kS33, lS33, kS34, fS34_3, fS34_4, kS35, lS35, kS36, lS36, kS37, kS38, fS38_0, kS39, lS39, kS40, fS40_0, kS41, lS41, kS42, fS42_0, kS43, lS43, kS44, fS44_0, kS45, lS45, kS46, fS46_0, kS47, lS47, kS48, fS48_0, kS49, lS49, kS50, fS50_0, kS51, lS51, kS52, fS52_0, kS53, lS53, kS54, fS54_0, kS55, lS55, kS56, fS56_5, fS56_6, fS56_7, fS56_8, fS56_9, kS57, lS57, kS58, lS58, kS59, lS59, kS60, lS60, kS61, lS61, kS62, fS62_5, fS62_6, fS62_7, fS62_8, fS62_9, kS63, lS63, kS64, lS64, kS65, lS65, kS66, lS66, kS67, lS67, kS68, fS68_2, fS68_3, fS68_4, fS68_5, fS68_6, fS68_8, fS68_18, fS68_19, fS68_21, fS68_22, fS68_23, fS68_24, fS68_25, fS68_26, fS68_27, fS68_28, fS68_30, fS68_32, fS68_33, fS68_34, fS68_35, kS69, lS69, kS70, lS70, kS71, lS71, kS72, lS72, kS73, lS73, kS74, lS74, kS75, lS75, kS76, lS76, kS77, lS77, kS78, lS78, kS79, lS79, kS80, lS80, kS81, lS81, kS82, lS82, kS83, lS83, kS84, lS84, kS85, lS85, kS86, lS86, kS87, lS87, kS88, lS88, kS89, lS89, h1]
  | succ n ih =>
    intro k hk
    obtain ⟨a1, a2⟩ := hA k (by omega)
    have e3 := ih (k + 1) (by omega)
    have e1 : (∃ j, j < k + 1 ∧ A j = x) = ((∃ j, j < k ∧ A j = x) ∨ A k = x) := by
      apply propext
      constructor
      · rintro ⟨j, a, b⟩
        by_cases q : j = k
        · exact Or.inr (q ▸ b)
        · exact Or.inl ⟨j, by omega, b⟩
      · rintro (⟨j, a, b⟩ | b)
        · exact ⟨j, by omega, b⟩
        · exact ⟨k, by omega, b⟩
    rw [e1, pB_or] at e3
    rw [u183_5]
    cases hq : pB (∃ j, j < k ∧ A j = x) with
    | true =>
      rw [hq, Bool.true_or, bi_t] at e3
      rw [bi_t]
      simp (disch := first | assumption | omega) only [u183_0, u183_1, u183_2, u183_3, u183_7, u183_8, u183_11, u183_12, u183_13, u183_16, u183_17, u183_20, u183_21, u183_24, u183_26, u183_27, u183_28, u183_30, u183_31, u183_32, u183_33, u183_36, u183_37, u183_40, u183_41, u183_42, u183_45, u183_48, u183_49, ↓br_eq, ↓reduceIte, gd_true, ls_0, ls_1i, ls_1r, ls_1n, ls_1l, ls_2, ls2_eq, List.set_cons_zero, List.set_cons_succ, rf_s, cs_nil, cs_int, cs_ref, cs_long, Option.bind_some, Option.toList_some, Option.toList_none, List.nil_append, List.cons_append, Nat.reduceAdd, Nat.reduceSub, Nat.reduceMul, Nat.reduceLT, Nat.reduceLeDiff, Nat.reduceEqDiff, Int32.reduceAdd, Int32.reduceSub, Int32.reduceMul, Int32.reduceLT, Int32.reduceLE, Int32.reduceToInt, Int32.reduceToNatClampNeg, Int.reduceLE, Int.reduceLT, Int.reduceSub, Int.reduceToNat, and_self, true_and, and_true, or_true, true_or, false_or, or_false, false_and, and_false, not_false_eq_true, not_true_eq_false, eq_self, ↓li_m1, li_0, li_1, li_2, li_3, li_4, li_5, li_6, li_7, li_8, li_10, li_11, li_12, li_13, li_14, li_16, li_20, li_21, li_22, li_23, li_24, li_26, li_32, li_40, li_42, li_46, li_48, li_56, li_57, li_59, li_64, li_72, li_97, li_100, li_102, li_106, li_110, li_119, li_122, li_127, li_194, li_224, li_255, li_300, li_320, li_388, li_500, li_832, li_1000, ltT, ltF, leT, leF, eqT, eqF, eqmF, eqmF2, mlt, mle, mlt2, mle2, inT, cl, sbN, adm, mad, nI_add, pk_mul, dvN, rmN, rmN2, ofN, bo1, bo0, xle, xlt, xnl, xnt, xgt, xgt2, xge, xge0, xmo, dmN, kS0, lS0, kS1, lS1, kS2, lS2, kS3, lS3, kS4, lS4, kS5, lS5, kS6, lS6, kS7, lS7, kS8, fS8_0, fS8_1, fS8_2, fS8_3, fS8_4, fS8_5, fS8_6, fS8_7, fS8_8, fS8_9, kS9, lS9, fS9_0, fS9_1, fS9_2, fS9_3, fS9_4, fS9_5, fS9_6, fS9_7, kS10, fS10_0, fS10_1, kS11, fS11_0, kS12, lS12, kS13, fS13_5, fS13_6, fS13_7, fS13_8, fS13_9, kS14, lS14, kS15, lS15, kS16, lS16, kS17, lS17, kS18, lS18, kS19, fS19_5, fS19_6, fS19_7, fS19_8, fS19_9, kS20, lS20, kS21, lS21, kS22, lS22, kS23, lS23, kS24, lS24, kS25, lS25, fS25_0, fS25_1, kS26, kS27, fS27_3, fS27_4, fS27_5, kS28, lS28, kS29, lS29, kS30, lS30, kS31, fS31_3, fS31_4, kS32, lS32, kS33, lS33, kS34, fS34_3, fS34_4, kS35, lS35, kS36, lS36, kS37, kS38, fS38_0, kS39, lS39, kS40, fS40_0, kS41, lS41, kS42, fS42_0, kS43, lS43, kS44, fS44_0, kS45, lS45, kS46, fS46_0, kS47, lS47, kS48, fS48_0, kS49, lS49, kS50, fS50_0, kS51, lS51, kS52, fS52_0, kS53, lS53, kS54, fS54_0, kS55, lS55, kS56, fS56_5, fS56_6, fS56_7, fS56_8, fS56_9, kS57, lS57, kS58, lS58, kS59, lS59, kS60, lS60, kS61, lS61, kS62, fS62_5, fS62_6, fS62_7, fS62_8, fS62_9, kS63, lS63, kS64, lS64, kS65, lS65, kS66, lS66, kS67, lS67, kS68, fS68_2, fS68_3, fS68_4, fS68_5, fS68_6, fS68_8, fS68_18, fS68_19, fS68_21, fS68_22, fS68_23, fS68_24, fS68_25, fS68_26, fS68_27, fS68_28, fS68_30, fS68_32, fS68_33, fS68_34, fS68_35, kS69, lS69, kS70, lS70, kS71, lS71, kS72, lS72, kS73, lS73, kS74, lS74, kS75, lS75, kS76, lS76, kS77, lS77, kS78, lS78, kS79, lS79, kS80, lS80, kS81, lS81, kS82, lS82, kS83, lS83, kS84, lS84, kS85, lS85, kS86, lS86, kS87, lS87, kS88, lS88, kS89, lS89, h1, e3]
    | false =>
      rw [hq, Bool.false_or] at e3
      rw [bi_f]
      by_cases q : A k = x
      · rw [pB_t q, bi_t] at e3
        simp (disch := first | assumption | omega) only [u183_0, u183_1, u183_2, u183_3, u183_7, u183_8, u183_11, u183_12, u183_13, u183_16, u183_17, u183_20, u183_21, u183_24, u183_26, u183_27, u183_28, u183_30, u183_31, u183_32, u183_33, u183_36, u183_37, u183_40, u183_41, u183_42, u183_45, u183_48, u183_49, ↓br_eq, ↓reduceIte, gd_true, ls_0, ls_1i, ls_1r, ls_1n, ls_1l, ls_2, ls2_eq, List.set_cons_zero, List.set_cons_succ, rf_s, cs_nil, cs_int, cs_ref, cs_long, Option.bind_some, Option.toList_some, Option.toList_none, List.nil_append, List.cons_append, Nat.reduceAdd, Nat.reduceSub, Nat.reduceMul, Nat.reduceLT, Nat.reduceLeDiff, Nat.reduceEqDiff, Int32.reduceAdd, Int32.reduceSub, Int32.reduceMul, Int32.reduceLT, Int32.reduceLE, Int32.reduceToInt, Int32.reduceToNatClampNeg, Int.reduceLE, Int.reduceLT, Int.reduceSub, Int.reduceToNat, and_self, true_and, and_true, or_true, true_or, false_or, or_false, false_and, and_false, not_false_eq_true, not_true_eq_false, eq_self, ↓li_m1, li_0, li_1, li_2, li_3, li_4, li_5, li_6, li_7, li_8, li_10, li_11, li_12, li_13, li_14, li_16, li_20, li_21, li_22, li_23, li_24, li_26, li_32, li_40, li_42, li_46, li_48, li_56, li_57, li_59, li_64, li_72, li_97, li_100, li_102, li_106, li_110, li_119, li_122, li_127, li_194, li_224, li_255, li_300, li_320, li_388, li_500, li_832, li_1000, ltT, ltF, leT, leF, eqT, eqF, eqmF, eqmF2, mlt, mle, mlt2, mle2, inT, cl, sbN, adm, mad, nI_add, pk_mul, dvN, rmN, rmN2, ofN, bo1, bo0, xle, xlt, xnl, xnt, xgt, xgt2, xge, xge0, xmo, dmN, kS0, lS0, kS1, lS1, kS2, lS2, kS3, lS3, kS4, lS4, kS5, lS5, kS6, lS6, kS7, lS7, kS8, fS8_0, fS8_1, fS8_2, fS8_3, fS8_4, fS8_5, fS8_6, fS8_7, fS8_8, fS8_9, kS9, lS9, fS9_0, fS9_1, fS9_2, fS9_3, fS9_4, fS9_5, fS9_6, fS9_7, kS10, fS10_0, fS10_1, kS11, fS11_0, kS12, lS12, kS13, fS13_5, fS13_6, fS13_7, fS13_8, fS13_9, kS14, lS14, kS15, lS15, kS16, lS16, kS17, lS17, kS18, lS18, kS19, fS19_5, fS19_6, fS19_7, fS19_8, fS19_9, kS20, lS20, kS21, lS21, kS22, lS22, kS23, lS23, kS24, lS24, kS25, lS25, fS25_0, fS25_1, kS26, kS27, fS27_3, fS27_4, fS27_5, kS28, lS28, kS29, lS29, kS30, lS30, kS31, fS31_3, fS31_4, kS32, lS32, kS33, lS33, kS34, fS34_3, fS34_4, kS35, lS35, kS36, lS36, kS37, kS38, fS38_0, kS39, lS39, kS40, fS40_0, kS41, lS41, kS42, fS42_0, kS43, lS43, kS44, fS44_0, kS45, lS45, kS46, fS46_0, kS47, lS47, kS48, fS48_0, kS49, lS49, kS50, fS50_0, kS51, lS51, kS52, fS52_0, kS53, lS53, kS54, fS54_0, kS55, lS55, kS56, fS56_5, fS56_6, fS56_7, fS56_8, fS56_9, kS57, lS57, kS58, lS58, kS59, lS59, kS60, lS60, kS61, lS61, kS62, fS62_5, fS62_6, fS62_7, fS62_8, fS62_9, kS63, lS63, kS64, lS64, kS65, lS65, kS66, lS66, kS67, lS67, kS68, fS68_2, fS68_3, fS68_4, fS68_5, fS68_6, fS68_8, fS68_18, fS68_19, fS68_21, fS68_22, fS68_23, fS68_24, fS68_25, fS68_26, fS68_27, fS68_28, fS68_30, fS68_32, fS68_33, fS68_34, fS68_35, kS69, lS69, kS70, lS70, kS71, lS71, kS72, lS72, kS73, lS73, kS74, lS74, kS75, lS75, kS76, lS76, kS77, lS77, kS78, lS78, kS79, lS79, kS80, lS80, kS81, lS81, kS82, lS82, kS83, lS83, kS84, lS84, kS85, lS85, kS86, lS86, kS87, lS87, kS88, lS88, kS89, lS89, h1, a1, e3]
      · rw [pB_f q, bi_f] at e3
        simp (disch := first | assumption | omega) only [u183_0, u183_1, u183_2, u183_3, u183_7, u183_8, u183_11, u183_12, u183_13, u183_16, u183_17, u183_20, u183_21, u183_24, u183_26, u183_27, u183_28, u183_30, u183_31, u183_32, u183_33, u183_36, u183_37, u183_40, u183_41, u183_42, u183_45, u183_48, u183_49, ↓br_eq, ↓reduceIte, gd_true, ls_0, ls_1i, ls_1r, ls_1n, ls_1l, ls_2, ls2_eq, List.set_cons_zero, List.set_cons_succ, rf_s, cs_nil, cs_int, cs_ref, cs_long, Option.bind_some, Option.toList_some, Option.toList_none, List.nil_append, List.cons_append, Nat.reduceAdd, Nat.reduceSub, Nat.reduceMul, Nat.reduceLT, Nat.reduceLeDiff, Nat.reduceEqDiff, Int32.reduceAdd, Int32.reduceSub, Int32.reduceMul, Int32.reduceLT, Int32.reduceLE, Int32.reduceToInt, Int32.reduceToNatClampNeg, Int.reduceLE, Int.reduceLT, Int.reduceSub, Int.reduceToNat, and_self, true_and, and_true, or_true, true_or, false_or, or_false, false_and, and_false, not_false_eq_true, not_true_eq_false, eq_self, ↓li_m1, li_0, li_1, li_2, li_3, li_4, li_5, li_6, li_7, li_8, li_10, li_11, li_12, li_13, li_14, li_16, li_20, li_21, li_22, li_23, li_24, li_26, li_32, li_40, li_42, li_46, li_48, li_56, li_57, li_59, li_64, li_72, li_97, li_100, li_102, li_106, li_110, li_119, li_122, li_127, li_194, li_224, li_255, li_300, li_320, li_388, li_500, li_832, li_1000, ltT, ltF, leT, leF, eqT, eqF, eqmF, eqmF2, mlt, mle, mlt2, mle2, inT, cl, sbN, adm, mad, nI_add, pk_mul, dvN, rmN, rmN2, ofN, bo1, bo0, xle, xlt, xnl, xnt, xgt, xgt2, xge, xge0, xmo, dmN, kS0, lS0, kS1, lS1, kS2, lS2, kS3, lS3, kS4, lS4, kS5, lS5, kS6, lS6, kS7, lS7, kS8, fS8_0, fS8_1, fS8_2, fS8_3, fS8_4, fS8_5, fS8_6, fS8_7, fS8_8, fS8_9, kS9, lS9, fS9_0, fS9_1, fS9_2, fS9_3, fS9_4, fS9_5, fS9_6, fS9_7, kS10, fS10_0, fS10_1, kS11, fS11_0, kS12, lS12, kS13, fS13_5, fS13_6, fS13_7, fS13_8, fS13_9, kS14, lS14, kS15, lS15, kS16, lS16, kS17, lS17, kS18, lS18, kS19, fS19_5, fS19_6, fS19_7, fS19_8, fS19_9, kS20, lS20, kS21, lS21, kS22, lS22, kS23, lS23, kS24, lS24, kS25, lS25, fS25_0, fS25_1, kS26, kS27, fS27_3, fS27_4, fS27_5, kS28, lS28, kS29, lS29, kS30, lS30, kS31, fS31_3, fS31_4, kS32, lS32, kS33, lS33, kS34, fS34_3, fS34_4, kS35, lS35, kS36, lS36, kS37, kS38, fS38_0, kS39, lS39, kS40, fS40_0, kS41, lS41, kS42, fS42_0, kS43, lS43, kS44, fS44_0, kS45, lS45, kS46, fS46_0, kS47, lS47, kS48, fS48_0, kS49, lS49, kS50, fS50_0, kS51, lS51, kS52, fS52_0, kS53, lS53, kS54, fS54_0, kS55, lS55, kS56, fS56_5, fS56_6, fS56_7, fS56_8, fS56_9, kS57, lS57, kS58, lS58, kS59, lS59, kS60, lS60, kS61, lS61, kS62, fS62_5, fS62_6, fS62_7, fS62_8, fS62_9, kS63, lS63, kS64, lS64, kS65, lS65, kS66, lS66, kS67, lS67, kS68, fS68_2, fS68_3, fS68_4, fS68_5, fS68_6, fS68_8, fS68_18, fS68_19, fS68_21, fS68_22, fS68_23, fS68_24, fS68_25, fS68_26, fS68_27, fS68_28, fS68_30, fS68_32, fS68_33, fS68_34, fS68_35, kS69, lS69, kS70, lS70, kS71, lS71, kS72, lS72, kS73, lS73, kS74, lS74, kS75, lS75, kS76, lS76, kS77, lS77, kS78, lS78, kS79, lS79, kS80, lS80, kS81, lS81, kS82, lS82, kS83, lS83, kS84, lS84, kS85, lS85, kS86, lS86, kS87, lS87, kS88, lS88, kS89, lS89, h1, a1, e3]
set_option maxRecDepth 100000 in
set_option maxHeartbeats 400000 in
theorem k183 {h : aH} {e x s : Nat} {A : Nat → Nat} (he : e < 2) (hs : s ≤ 12) (hx : x < 2147483648) (h1 : h.1 81 e = nI s) (hA : ∀ k, k ≤ s → h.1 79 (13 * e + k) = nI (A k) ∧ A k < 2147483648) (L d : Nat) : call d 183 [.ref 68, .int (nI e), .int (nI x)] (S0 L) h = some (some (.int (bi (pB (∃ j, j ≤ s ∧ A j = x)))), S0 L, h) := by
  have e1 := z183 he hs hx h1 hA L d (s + 1) 0 (by omega)
  rw [pB_f (fun ⟨j, a, _⟩ => by omega), bi_f] at e1
  simp (disch := first | assumption | omega) only [c183, u183_0, u183_1, u183_2, u183_3, u183_7, u183_8, u183_11, u183_12, u183_13, u183_16, u183_17, u183_20, u183_21, u183_24, u183_26, u183_27, u183_28, u183_30, u183_31, u183_32, u183_33, u183_36, u183_37, u183_40, u183_41, u183_42, u183_45, u183_48, u183_49, ↓br_eq, ↓reduceIte, gd_true, ls_0, ls_1i, ls_1r, ls_1n, ls_1l, ls_2, ls2_eq, List.set_cons_zero, List.set_cons_succ, rf_s, cs_nil, cs_int, cs_ref, cs_long, Option.bind_some, Option.toList_some, Option.toList_none, List.nil_append, List.cons_append, Nat.reduceAdd, Nat.reduceSub, Nat.reduceMul, Nat.reduceLT, Nat.reduceLeDiff, Nat.reduceEqDiff, Int32.reduceAdd, Int32.reduceSub, Int32.reduceMul, Int32.reduceLT, Int32.reduceLE, Int32.reduceToInt, Int32.reduceToNatClampNeg, Int.reduceLE, Int.reduceLT, Int.reduceSub, Int.reduceToNat, and_self, true_and, and_true, or_true, true_or, false_or, or_false, false_and, and_false, not_false_eq_true, not_true_eq_false, eq_self, ↓li_m1, li_0, li_1, li_2, li_3, li_4, li_5, li_6, li_7, li_8, li_10, li_11, li_12, li_13, li_14, li_16, li_20, li_21, li_22, li_23, li_24, li_26, li_32, li_40, li_42, li_46, li_48, li_56, li_57, li_59, li_64, li_72, li_97, li_100, li_102, li_106, li_110, li_119, li_122, li_127, li_194, li_224, li_255, li_300, li_320, li_388, li_500, li_832, li_1000, ltT, ltF, leT, leF, eqT, eqF, eqmF, eqmF2, mlt, mle, mlt2, mle2, inT, cl, sbN, adm, mad, nI_add, pk_mul, dvN, rmN, rmN2, ofN, bo1, bo0, xle, xlt, xnl, xnt, xgt, xgt2, xge, xge0, xmo, dmN, kS0, lS0, kS1, lS1, kS2, lS2, kS3, lS3, kS4, lS4, kS5, lS5, kS6, lS6, kS7, lS7, kS8, fS8_0, fS8_1, fS8_2, fS8_3, fS8_4, fS8_5, fS8_6, fS8_7, fS8_8, fS8_9, kS9, lS9, fS9_0, fS9_1, fS9_2, fS9_3, fS9_4, fS9_5, fS9_6, fS9_7, kS10, fS10_0, fS10_1, kS11, fS11_0, kS12, lS12, kS13, fS13_5, fS13_6, fS13_7, fS13_8, fS13_9, kS14, lS14, kS15, lS15, kS16, lS16, kS17, lS17, kS18, lS18, kS19, fS19_5, fS19_6, fS19_7, fS19_8, fS19_9, kS20, lS20, kS21, lS21, kS22, lS22, kS23, lS23, kS24, lS24, kS25, lS25, fS25_0, fS25_1, kS26, kS27, fS27_3, fS27_4, fS27_5, kS28, lS28, kS29, lS29, kS30, lS30, kS31, fS31_3, fS31_4, kS32, lS32, kS33, lS33, kS34, fS34_3, fS34_4, kS35, lS35, kS36, lS36, kS37, kS38, fS38_0, kS39, lS39, kS40, fS40_0, kS41, lS41, kS42, fS42_0, kS43, lS43, kS44, fS44_0, kS45, lS45, kS46, fS46_0, kS47, lS47, kS48, fS48_0, kS49, lS49, kS50, fS50_0, kS51, lS51, kS52, fS52_0, kS53, lS53, kS54, fS54_0, kS55, lS55, kS56, fS56_5, fS56_6, fS56_7, fS56_8, fS56_9, kS57, lS57, kS58, lS58, kS59, lS59, kS60, lS60, kS61, lS61, kS62, fS62_5, fS62_6, fS62_7, fS62_8, fS62_9, kS63, lS63, kS64, lS64, kS65, lS65, kS66, lS66, kS67, lS67, kS68, fS68_2, fS68_3, fS68_4, fS68_5, fS68_6, fS68_8, fS68_18, fS68_19, fS68_21, fS68_22, fS68_23, fS68_24, fS68_25, fS68_26, fS68_27, fS68_28, fS68_30, fS68_32, fS68_33, fS68_34, fS68_35, kS69, lS69, kS70, lS70, kS71, lS71, kS72, lS72, kS73, lS73, kS74, lS74, kS75, lS75, kS76, lS76, kS77, lS77, kS78, lS78, kS79, lS79, kS80, lS80, kS81, lS81, kS82, lS82, kS83, lS83, kS84, lS84, kS85, lS85, kS86, lS86, kS87, lS87, kS88, lS88, kS89, lS89, e1]
set_option maxRecDepth 100000 in
set_option maxHeartbeats 400000 in
theorem mem_pcs : ∀ (ws : List Nat) (o x : Nat), x ∈ pcs o ws ↔ ∃ k, k < ws.length ∧ pe o (ws.take (k + 1)) = x
  | [], o, x => by
    constructor
    · intro h; cases h
    · rintro ⟨k, h, _⟩; simp at h
  | w :: ws, o, x => by
    rw [pcs, List.mem_cons, mem_pcs ws]
    constructor
    · rintro (h | ⟨k, a, b⟩)
      · exact ⟨0, by simp, by rw [h]; rfl⟩
      · exact ⟨k + 1, by rw [List.length_cons]; omega, b⟩
    · rintro ⟨k, a, b⟩
      cases k with
      | zero => exact Or.inl b.symm
      | succ k => exact Or.inr ⟨k, by rw [List.length_cons] at a; omega, b⟩
set_option maxRecDepth 100000 in
set_option maxHeartbeats 400000 in
theorem was_iff (ws : List Nat) (o x : Nat) : (∃ k, k ≤ ws.length ∧ pe o (ws.take k) = x) ↔ (x = o ∨ x ∈ pcs o ws) := by
  rw [mem_pcs]
  constructor
  · rintro ⟨k, a, b⟩
    cases k with
    | zero => exact Or.inl b.symm
    | succ k => exact Or.inr ⟨k, by omega, b⟩
  · rintro (h | ⟨k, a, b⟩)
    · exact ⟨0, by omega, h.symm⟩
    · exact ⟨k + 1, by omega, b⟩
/-! the state of a search -/
def RS (e : Nat) (g : Nat → Int32) (o l most : Nat) (ws : List Nat) (v : Nat) (h : aH) : Prop :=
  (∀ k, k < ws.length → h.1 78 (12 * e + k) = nI (ws.getD k 0)) ∧ h.1 78 (12 * e + ws.length) = dI v ∧
  (∀ k, k ≤ ws.length → h.1 79 (13 * e + k) = nI (pe o (ws.take k)) ∧ h.1 80 (13 * e + k) = nI (rp g o (ws.take k))) ∧
  h.1 81 e = nI ws.length ∧ h.1 82 e = nI most ∧ h.1 83 e = nI l
def pOK (g : Nat → Int32) (o : Nat) (ws : List Nat) : Prop := walks g o ws ∧ (pcs o ws).Nodup ∧ o ∉ pcs o ws
def Rg (e c k : Nat) : Prop := (c = 78 ∧ 12 * e ≤ k ∧ k < 12 * e + 12) ∨ ((c = 79 ∨ c = 80) ∧ 13 * e ≤ k ∧ k < 13 * e + 13) ∨ ((81 ≤ c ∧ c ≤ 84) ∧ k = e)
def GF (e : Nat) (h h' : aH) : Prop := (∀ c k, ¬ Rg e c k → h'.1 c k = h.1 c k) ∧ (∀ c k, ¬ (c = 68 ∧ k = 29) → h'.2.1 c k = h.2.1 c k) ∧ h'.2.2 = h.2.2
set_option maxRecDepth 100000 in
set_option maxHeartbeats 400000 in
theorem GF.refl (e : Nat) (h : aH) : GF e h h := ⟨fun _ _ _ => rfl, fun _ _ _ => rfl, rfl⟩
set_option maxRecDepth 100000 in
set_option maxHeartbeats 400000 in
theorem GF.trans {e : Nat} {a b c : aH} (h1 : GF e a b) (h2 : GF e b c) : GF e a c := ⟨fun x k p => (h2.1 x k p).trans (h1.1 x k p), fun x k p => (h2.2.1 x k p).trans (h1.2.1 x k p), h2.2.2.trans h1.2.2⟩
set_option maxRecDepth 100000 in
set_option maxHeartbeats 400000 in
theorem GF.si {e : Nat} {h : aH} {c k : Nat} (hR : Rg e c k) (v : Int32) : GF e h (sI h c k v) := ⟨fun c' k' hn => sI_n (fun z => hn (by rw [z.1, z.2]; exact hR)), fun _ _ _ => rfl, rfl⟩
set_option maxRecDepth 100000 in
set_option maxHeartbeats 400000 in
theorem GF.sl {e : Nat} {h : aH} (v : Int64) : GF e h (sL h 68 29 v) := ⟨fun _ _ _ => rfl, fun c' k' hn => sL_n hn, rfl⟩
set_option maxRecDepth 100000 in
set_option maxHeartbeats 400000 in
theorem HD.gf {h h' : aH} {g : Nat → Int32} {e : Nat} (H : HD h g) (F : GF e h h') : HD h' g := H.of (fun c k hc => F.1 c k (by unfold Rg; omega)) (F.2.1 68 20 (by omega))
/-! what is still to come -/
noncomputable def rF1 (g : Nat → Int32) (o l n c : Nat) (bn ws : List Nat) (t w : Nat) : List (List Nat) := br (lead g c w = true ∧ t + tk g c w ≤ l) (br (sx c w = o) (br (4 ≤ ws.length + 1 ∧ clr g o (ws ++ [w])) [ws ++ [w]] []) (br (sx c w ∉ bn ∧ ds (sx c w) o ≤ n) (dfr g o l n (sx c w) (sx c w :: bn) (ws ++ [w]) (t + tk g c w)) [])) []
noncomputable def rFr (g : Nat → Int32) (o l n c : Nat) (bn ws : List Nat) (t : Nat) : Nat → Nat → List (List Nat)
  | 0, _ => []
  | k + 1, v => rF1 g o l n c bn ws t v ++ rFr g o l n c bn ws t k (v + 1)
set_option maxRecDepth 100000 in
set_option maxHeartbeats 400000 in
theorem dfr_rFr (g : Nat → Int32) (o l n c : Nat) (bn ws : List Nat) (t : Nat) : dfr g o l (n + 1) c bn ws t = rFr g o l n c bn ws t 4 0 := by
  rw [dfr]
  show List.flatMap (fun w => rF1 g o l n c bn ws t w) [0, 1, 2, 3] = _
  simp [rFr]
def bnR (o : Nat) (ws : List Nat) : List Nat := (pcs o ws).reverse ++ [o]
noncomputable def lev (g : Nat → Int32) (o l most : Nat) (ws : List Nat) (v : Nat) : List (List Nat) := rFr g o l (most - 1 - ws.length) (pe o ws) (bnR o ws) ws (rp g o ws) (4 - v) v
noncomputable def remR (g : Nat → Int32) (o l most : Nat) : List Nat → Nat → List (List Nat)
  | [], v => lev g o l most [] v
  | w :: rs, v => lev g o l most (w :: rs).reverse v ++ remR g o l most rs (w + 1)
def muR : List Nat → Nat → Nat
  | [], v => (5 - v) * 6 ^ 12
  | w :: rs, v => (5 - v) * 6 ^ (11 - rs.length) + muR rs (w + 1)
noncomputable def remT (g : Nat → Int32) (o l most : Nat) : List Nat → List (List Nat)
  | [] => []
  | w :: rs => remR g o l most rs (w + 1)
def muT : List Nat → Nat
  | [] => 0
  | w :: rs => muR rs (w + 1)
set_option maxRecDepth 100000 in
set_option maxHeartbeats 400000 in
theorem remR_eq (g : Nat → Int32) (o l most : Nat) (rs : List Nat) (v : Nat) : remR g o l most rs v = lev g o l most rs.reverse v ++ remT g o l most rs := by
  cases rs with
  | nil => rw [remR, remT, List.append_nil]; rfl
  | cons w rs => rw [remR, remT]
set_option maxRecDepth 100000 in
set_option maxHeartbeats 400000 in
theorem muR_eq (rs : List Nat) (v : Nat) : muR rs v = (5 - v) * 6 ^ (12 - rs.length) + muT rs := by
  cases rs with
  | nil => rw [muR, muT, List.length_nil, Nat.add_zero]
  | cons w rs => rw [muR, muT, List.length_cons, show 12 - (rs.length + 1) = 11 - rs.length by omega]
set_option maxRecDepth 100000 in
set_option maxHeartbeats 400000 in
theorem lev_4 (g : Nat → Int32) (o l most : Nat) (ws : List Nat) : lev g o l most ws 4 = [] := rfl
set_option maxRecDepth 100000 in
set_option maxHeartbeats 400000 in
theorem lev_s (g : Nat → Int32) (o l most : Nat) (ws : List Nat) {v : Nat} (hv : v < 4) : lev g o l most ws v = rF1 g o l (most - 1 - ws.length) (pe o ws) (bnR o ws) ws (rp g o ws) v ++ lev g o l most ws (v + 1) := by
  unfold lev
  rw [show 4 - v = (4 - (v + 1)) + 1 by omega, rFr]
set_option maxRecDepth 100000 in
set_option maxHeartbeats 400000 in
theorem mu_c {rs : List Nat} {v : Nat} (hv : v < 4) : muR rs (v + 1) < muR rs v := by
  rw [muR_eq, muR_eq]
  have : 0 < 6 ^ (12 - rs.length) := Nat.pow_pos (by decide)
  have e : 5 - v = (5 - (v + 1)) + 1 := by omega
  rw [e, Nat.add_mul, Nat.one_mul]
  omega
set_option maxRecDepth 100000 in
set_option maxHeartbeats 400000 in
theorem mu_p {rs : List Nat} {v : Nat} (hv : v < 4) (hl : rs.length ≤ 11) : muR (v :: rs) 0 < muR rs v := by
  rw [muR, muR_eq rs v, muR_eq rs (v + 1)]
  have : 0 < 6 ^ (11 - rs.length) := Nat.pow_pos (by decide)
  have e : 5 - v = (5 - (v + 1)) + 1 := by omega
  have e2 : 6 ^ (12 - rs.length) = 6 * 6 ^ (11 - rs.length) := by
    rw [show 12 - rs.length = (11 - rs.length) + 1 by omega, Nat.pow_succ, Nat.mul_comm]
  rw [e, Nat.add_mul, Nat.one_mul, e2]
  omega
set_option maxRecDepth 100000 in
set_option maxHeartbeats 400000 in
theorem mu_t (rs : List Nat) : muT rs < muR rs 4 := by
  rw [muR_eq]
  have : 0 < 6 ^ (12 - rs.length) := Nat.pow_pos (by decide)
  omega
set_option maxRecDepth 100000 in
set_option maxHeartbeats 400000 in
theorem take_snoc (ws : List Nat) (w k : Nat) (hk : k ≤ ws.length) : (ws ++ [w]).take k = ws.take k := by
  rw [List.take_append_of_le_length hk]
set_option maxRecDepth 100000 in
set_option maxHeartbeats 400000 in
theorem getD_snoc_l (ws : List Nat) (w : Nat) {k : Nat} (hk : k < ws.length) : (ws ++ [w]).getD k 0 = ws.getD k 0 := by
  rw [List.getD_eq_getElem?_getD, List.getD_eq_getElem?_getD, List.getElem?_append_left hk]
set_option maxRecDepth 100000 in
set_option maxHeartbeats 400000 in
theorem getD_snoc_e (ws : List Nat) (w : Nat) : (ws ++ [w]).getD ws.length 0 = w := by
  rw [List.getD_eq_getElem?_getD, List.getElem?_append_right (Nat.le_refl _), Nat.sub_self]; rfl
set_option maxRecDepth 100000 in
set_option maxHeartbeats 400000 in
theorem pOK_pre {g : Nat → Int32} {o : Nat} {ws : List Nat} {w : Nat} (h : pOK g o (ws ++ [w])) : pOK g o ws := by
  obtain ⟨a, b, c⟩ := h
  rw [walks_app] at a
  rw [pcs_app, List.nodup_append] at b
  rw [pcs_app, List.mem_append] at c
  exact ⟨a.1, b.1, fun z => c (Or.inl z)⟩
set_option maxRecDepth 100000 in
set_option maxHeartbeats 400000 in
theorem rp_le_pre {g : Nat → Int32} {o l : Nat} {ws : List Nat} {w : Nat} (h : rp g o (ws ++ [w]) ≤ l) : rp g o ws ≤ l := by
  rw [rp_app] at h; omega
