/-! least: the class -/
def rlS (L w : Nat) : Prop := aK (S0 L) w = 5 ∧ aF (S0 L) w 3 = some (w + 1) ∧ aF (S0 L) w 4 = some (w + 2) ∧ aK (S0 L) (w + 1) = 103 ∧ aL (S0 L) (w + 1) = 72 ∧ aK (S0 L) (w + 2) = 100 ∧ aL (S0 L) (w + 2) = 72
set_option maxRecDepth 100000 in
set_option maxHeartbeats 400000 in
theorem rl31 (L : Nat) : rlS L 31 := ⟨rfl, rfl, rfl, rfl, rfl, rfl, rfl⟩
set_option maxRecDepth 100000 in
set_option maxHeartbeats 400000 in
theorem rl34 (L : Nat) : rlS L 34 := ⟨rfl, rfl, rfl, rfl, rfl, rfl, rfl⟩
set_option maxRecDepth 100000 in
set_option maxHeartbeats 400000 in
theorem an3 {x : Nat} (h : x < 2147483648) : nI x &&& nI 3 = nI (x % 4) := pk_andN (by omega) 2 (by decide +kernel)
def RLk (g : Nat → Int32) (o w : Nat) (K : List (List Nat)) (h : aH) : Prop := h.1 w 5 = nI (min 72 K.length) ∧ ∀ i, i < min 72 K.length → (∀ b, b < 64 → lb (h.2.1 (w + 1) i) b = ins o (K.getD i []) b) ∧ h.1 (w + 2) i = nI (wo g o (K.getD i []))
def JR (g : Nat → Int32) (o w : Nat) (h0 : aH) (rs : List (List Nat)) (h : aH) : Prop :=
  HG h g ∧ (∀ j, h.1 1 j = strF j) ∧ h.2.2 w 0 = some 19 ∧ h.1 w 1 = nI o ∧ h.1 w 2 = nI 8 ∧ RLk g o w (rs.filter fw) h ∧ (∀ c k, ¬ (w ≤ c ∧ c < w + 3) → h.1 c k = h0.1 c k ∧ h.2.1 c k = h0.2.1 c k)
set_option maxRecDepth 100000 in
set_option maxHeartbeats 400000 in
theorem meetR {g : Nat → Int32} {o w : Nat} {h0 : aH} (hw31 : 31 ≤ w) (hw34 : w ≤ 34) {L : Nat} (hs : rlS L w) (hG : ∀ h, HG h g → True) : ∀ rs h r x b y d, JR g o w h0 rs h → isRing g o r → r.length ≤ 8 → clr g o r → (∀ i, i < 64 → lb x i = ins o r i) → (∀ i, i < 64 → lb b i = pB (i ∈ pcs o r)) → (∀ i, i < 64 → lb y i = pkW r i) → ∃ h', call (d + 3) 55 [.ref w, .long x, .long b, .long y, .int (nI r.length)] (S0 L) h = some (none, S0 L, h') ∧ JR g o w h0 (rs ++ [r]) h' := by
  intro rs h r x b y d J hr hlen hc hx hb hy
  obtain ⟨s0, s1, s2, s3, s4, s5, s6⟩ := hs
  obtain ⟨G, hC, j1, j2, j3, ⟨j4, j5⟩, j6⟩ := J
  have h4 := hr.2.2.2.2
  have w1 := walks_4 r o hr.2.1 0 (by omega)
  have w2 := walks_4 r o hr.2.1 (r.length - 1) (by omega)
  have e1 := w2n_pk hy (k := 0) (by omega) w1
  have e2 := w2n_pk hy (k := r.length - 1) (by omega) w2
  have a1 := k36w G hx L (d + 1)
  rw [show wth g (ins o r) 64 = wo g o r from rfl] at a1
  have k3 := an3 (x := r.getD (r.length - 1) 0 + 2) (by omega)
  have ho4 : (r.getD (r.length - 1) 0 + 2) % 4 = opp (r.getD (r.length - 1) 0) := rfl
  rw [ho4] at k3
  have ol := opp_lt (r.getD (r.length - 1) 0)
  have keep : fw r = false → JR g o w h0 (rs ++ [r]) h := fun q => by
    refine ⟨G, hC, j1, j2, j3, ?_, j6⟩
    rw [List.filter_append, List.filter_cons, if_neg (by rw [q]; decide), List.filter_nil, List.append_nil]
    exact ⟨j4, j5⟩
  cases q : fw r with
  | false =>
    have q' := of_decide_eq_false q
    refine ⟨h, ?_, keep q⟩
    generalize r.getD 0 0 = f0 at *
    generalize opp (r.getD (r.length - 1) 0) = f1 at *
    simp (disch := first | assumption | omega) only [c55, u55_0, u55_2, u55_3, u55_6, u55_8, u55_10, u55_12, u55_13, u55_14, u55_17, u55_18, u55_19, u55_20, u55_21, u55_23, u55_25, u55_27, u55_30, u55_31, u55_34, u55_36, u55_39, u55_40, u55_43, u55_44, u55_47, u55_48, u55_49, u55_50, u55_53, u55_54, u55_57, u55_58, u55_61, u55_62, u55_65, u55_66, u55_67, u55_67i, u55_68, u55_71, u55_72, u55_73, u55_76, ↓br_eq, ↓reduceIte, gd_true, ls_0, ls_1i, ls_1r, ls_1n, ls_1l, ls_2, ls2_eq, List.set_cons_zero, List.set_cons_succ, rf_s, cs_nil, cs_int, cs_ref, cs_long, Option.bind_some, Option.toList_some, Option.toList_none, List.nil_append, List.cons_append, Nat.reduceAdd, Nat.reduceSub, Nat.reduceMul, Nat.reduceLT, Nat.reduceLeDiff, Nat.reduceEqDiff, Int32.reduceAdd, Int32.reduceSub, Int32.reduceMul, Int32.reduceLT, Int32.reduceLE, Int32.reduceToInt, Int32.reduceToNatClampNeg, Int.reduceLE, Int.reduceLT, Int.reduceSub, Int.reduceToNat, and_self, true_and, and_true, or_true, true_or, false_or, or_false, false_and, and_false, not_false_eq_true, not_true_eq_false, eq_self, ↓li_m1, li_0, li_1, li_2, li_3, li_4, li_5, li_6, li_7, li_8, li_10, li_11, li_12, li_13, li_14, li_16, li_20, li_21, li_22, li_23, li_24, li_26, li_32, li_40, li_42, li_46, li_48, li_56, li_57, li_59, li_64, li_72, li_97, li_100, li_102, li_106, li_110, li_119, li_122, li_127, li_194, li_224, li_255, li_300, li_320, li_388, li_500, li_832, li_1000, ltT, ltF, leT, leF, eqT, eqF, eqmF, eqmF2, mlt, mle, mlt2, mle2, inT, cl, sbN, adm, mad, nI_add, pk_mul, dvN, rmN, rmN2, ofN, bo1, bo0, xle, xlt, xnl, xnt, xgt, xgt2, xge, xge0, xmo, dmN, kS0, lS0, kS1, lS1, kS2, lS2, kS3, lS3, kS4, lS4, kS5, lS5, kS6, lS6, kS7, lS7, kS8, fS8_0, fS8_1, fS8_2, fS8_3, fS8_4, fS8_5, fS8_6, fS8_7, fS8_8, fS8_9, kS9, lS9, fS9_0, fS9_1, fS9_2, fS9_3, fS9_4, fS9_5, fS9_6, fS9_7, kS10, fS10_0, fS10_1, kS11, fS11_0, kS12, lS12, kS13, fS13_5, fS13_6, fS13_7, fS13_8, fS13_9, kS14, lS14, kS15, lS15, kS16, lS16, kS17, lS17, kS18, lS18, kS19, fS19_5, fS19_6, fS19_7, fS19_8, fS19_9, kS20, lS20, kS21, lS21, kS22, lS22, kS23, lS23, kS24, lS24, kS25, lS25, fS25_0, fS25_1, kS26, kS27, fS27_3, fS27_4, fS27_5, kS28, lS28, kS29, lS29, kS30, lS30, kS31, fS31_3, fS31_4, kS32, lS32, kS33, lS33, kS34, fS34_3, fS34_4, kS35, lS35, kS36, lS36, kS37, kS38, fS38_0, kS39, lS39, kS40, fS40_0, kS41, lS41, kS42, fS42_0, kS43, lS43, kS44, fS44_0, kS45, lS45, kS46, fS46_0, kS47, lS47, kS48, fS48_0, kS49, lS49, kS50, fS50_0, kS51, lS51, kS52, fS52_0, kS53, lS53, kS54, fS54_0, kS55, lS55, kS56, fS56_5, fS56_6, fS56_7, fS56_8, fS56_9, kS57, lS57, kS58, lS58, kS59, lS59, kS60, lS60, kS61, lS61, kS62, fS62_5, fS62_6, fS62_7, fS62_8, fS62_9, kS63, lS63, kS64, lS64, kS65, lS65, kS66, lS66, kS67, lS67, kS68, fS68_2, fS68_3, fS68_4, fS68_5, fS68_6, fS68_8, fS68_18, fS68_19, fS68_21, fS68_22, fS68_23, fS68_24, fS68_25, fS68_26, fS68_27, fS68_28, fS68_30, fS68_32, fS68_33, fS68_34, fS68_35, kS69, lS69, kS70, lS70, kS71, lS71, kS72, lS72, kS73, lS73, kS74, lS74, kS75, lS75, kS76, lS76, kS77, lS77, kS78, lS78, kS79, lS79, kS80, lS80, kS81, lS81, kS82, lS82, kS83, lS83, kS84, lS84, kS85, lS85, kS86, lS86, kS87, lS87, kS88, lS88, kS89, lS89, k124, e1, e2, k3]
  | true =>
    have q' := of_decide_eq_true q
    have ef : (rs ++ [r]).filter fw = rs.filter fw ++ [r] := by
      rw [List.filter_append, List.filter_cons, if_pos q, List.filter_nil]
    by_cases q2 : (rs.filter fw).length < 72
    · have m1 : min 72 (rs.filter fw).length = (rs.filter fw).length := Nat.min_eq_right (by omega)
      have m2 : min 72 (rs.filter fw ++ [r]).length = (rs.filter fw).length + 1 := by rw [List.length_append, List.length_singleton]; exact Nat.min_eq_right (by omega)
      rw [m1] at j4 j5
      refine ⟨sI (sI (sL h (w + 1) (rs.filter fw).length x) (w + 2) (rs.filter fw).length (nI (wo g o r))) w 5 (nI ((rs.filter fw).length + 1)), ?_, G.of (fun c k p1 p2 => ⟨?_, ?_⟩), fun j => ?_, j1, ?_, ?_, ⟨?_, fun i hi => ?_⟩, fun c k p => ⟨?_, ?_⟩⟩
      · have G' : HG (sL h (w + 1) (rs.filter fw).length x) g := G.of (fun c k p1 p2 => ⟨rfl, sL_n (by omega)⟩)
        have a1' := k36w G' hx L (d + 1)
        rw [show wth g (ins o r) 64 = wo g o r from rfl] at a1'
        generalize r.getD 0 0 = f0 at *
        generalize opp (r.getD (r.length - 1) 0) = f1 at *
        simp (disch := first | assumption | omega) only [c55, u55_0, u55_2, u55_3, u55_6, u55_8, u55_10, u55_12, u55_13, u55_14, u55_17, u55_18, u55_19, u55_20, u55_21, u55_23, u55_25, u55_27, u55_30, u55_31, u55_34, u55_36, u55_39, u55_40, u55_43, u55_44, u55_47, u55_48, u55_49, u55_50, u55_53, u55_54, u55_57, u55_58, u55_61, u55_62, u55_65, u55_66, u55_67, u55_67i, u55_68, u55_71, u55_72, u55_73, u55_76, ↓br_eq, ↓reduceIte, gd_true, ls_0, ls_1i, ls_1r, ls_1n, ls_1l, ls_2, ls2_eq, List.set_cons_zero, List.set_cons_succ, rf_s, cs_nil, cs_int, cs_ref, cs_long, Option.bind_some, Option.toList_some, Option.toList_none, List.nil_append, List.cons_append, Nat.reduceAdd, Nat.reduceSub, Nat.reduceMul, Nat.reduceLT, Nat.reduceLeDiff, Nat.reduceEqDiff, Int32.reduceAdd, Int32.reduceSub, Int32.reduceMul, Int32.reduceLT, Int32.reduceLE, Int32.reduceToInt, Int32.reduceToNatClampNeg, Int.reduceLE, Int.reduceLT, Int.reduceSub, Int.reduceToNat, and_self, true_and, and_true, or_true, true_or, false_or, or_false, false_and, and_false, not_false_eq_true, not_true_eq_false, eq_self, ↓li_m1, li_0, li_1, li_2, li_3, li_4, li_5, li_6, li_7, li_8, li_10, li_11, li_12, li_13, li_14, li_16, li_20, li_21, li_22, li_23, li_24, li_26, li_32, li_40, li_42, li_46, li_48, li_56, li_57, li_59, li_64, li_72, li_97, li_100, li_102, li_106, li_110, li_119, li_122, li_127, li_194, li_224, li_255, li_300, li_320, li_388, li_500, li_832, li_1000, ltT, ltF, leT, leF, eqT, eqF, eqmF, eqmF2, mlt, mle, mlt2, mle2, inT, cl, sbN, adm, mad, nI_add, pk_mul, dvN, rmN, rmN2, ofN, bo1, bo0, xle, xlt, xnl, xnt, xgt, xgt2, xge, xge0, xmo, dmN, kS0, lS0, kS1, lS1, kS2, lS2, kS3, lS3, kS4, lS4, kS5, lS5, kS6, lS6, kS7, lS7, kS8, fS8_0, fS8_1, fS8_2, fS8_3, fS8_4, fS8_5, fS8_6, fS8_7, fS8_8, fS8_9, kS9, lS9, fS9_0, fS9_1, fS9_2, fS9_3, fS9_4, fS9_5, fS9_6, fS9_7, kS10, fS10_0, fS10_1, kS11, fS11_0, kS12, lS12, kS13, fS13_5, fS13_6, fS13_7, fS13_8, fS13_9, kS14, lS14, kS15, lS15, kS16, lS16, kS17, lS17, kS18, lS18, kS19, fS19_5, fS19_6, fS19_7, fS19_8, fS19_9, kS20, lS20, kS21, lS21, kS22, lS22, kS23, lS23, kS24, lS24, kS25, lS25, fS25_0, fS25_1, kS26, kS27, fS27_3, fS27_4, fS27_5, kS28, lS28, kS29, lS29, kS30, lS30, kS31, fS31_3, fS31_4, kS32, lS32, kS33, lS33, kS34, fS34_3, fS34_4, kS35, lS35, kS36, lS36, kS37, kS38, fS38_0, kS39, lS39, kS40, fS40_0, kS41, lS41, kS42, fS42_0, kS43, lS43, kS44, fS44_0, kS45, lS45, kS46, fS46_0, kS47, lS47, kS48, fS48_0, kS49, lS49, kS50, fS50_0, kS51, lS51, kS52, fS52_0, kS53, lS53, kS54, fS54_0, kS55, lS55, kS56, fS56_5, fS56_6, fS56_7, fS56_8, fS56_9, kS57, lS57, kS58, lS58, kS59, lS59, kS60, lS60, kS61, lS61, kS62, fS62_5, fS62_6, fS62_7, fS62_8, fS62_9, kS63, lS63, kS64, lS64, kS65, lS65, kS66, lS66, kS67, lS67, kS68, fS68_2, fS68_3, fS68_4, fS68_5, fS68_6, fS68_8, fS68_18, fS68_19, fS68_21, fS68_22, fS68_23, fS68_24, fS68_25, fS68_26, fS68_27, fS68_28, fS68_30, fS68_32, fS68_33, fS68_34, fS68_35, kS69, lS69, kS70, lS70, kS71, lS71, kS72, lS72, kS73, lS73, kS74, lS74, kS75, lS75, kS76, lS76, kS77, lS77, kS78, lS78, kS79, lS79, kS80, lS80, kS81, lS81, kS82, lS82, kS83, lS83, kS84, lS84, kS85, lS85, kS86, lS86, kS87, lS87, kS88, lS88, kS89, lS89, k124, e1, e2, k3, s0, s1, s2, s3, s4, s5, s6, j4, j1, sL_1, sL_22, sI_n, a1']
      · rw [sI_n (by omega), sI_n (by omega), sL_1]
      · rw [sI_2, sI_2, sL_n (by omega)]
      · rw [sI_n (by omega), sI_n (by omega), sL_1]; exact hC j
      · rw [sI_n (by omega), sI_n (by omega), sL_1]; exact j2
      · rw [sI_n (by omega), sI_n (by omega), sL_1]; exact j3
      · rw [sI_e, ef, m2]
      · rw [ef, m2] at hi
        rw [ef]
        by_cases z : i = (rs.filter fw).length
        · have eg : (rs.filter fw ++ [r]).getD i [] = r := by
            rw [z, List.getD_eq_getElem?_getD, List.getElem?_append_right (Nat.le_refl _), Nat.sub_self]; rfl
          rw [eg]
          refine ⟨fun b hb' => ?_, ?_⟩
          · rw [sI_2, sI_2, z, sL_e]; exact hx b hb'
          · rw [sI_n (by omega), z, sI_e]
        · have eg : (rs.filter fw ++ [r]).getD i [] = (rs.filter fw).getD i [] := by
            rw [List.getD_eq_getElem?_getD, List.getD_eq_getElem?_getD, List.getElem?_append_left (by omega)]
          rw [eg]
          obtain ⟨u1, u2⟩ := j5 i (by omega)
          refine ⟨fun b hb' => ?_, ?_⟩
          · rw [sI_2, sI_2, sL_n (by omega)]; exact u1 b hb'
          · rw [sI_n (by omega), sI_n (by omega), sL_1]; exact u2
      · rw [sI_n (by omega), sI_n (by omega), sL_1]; exact (j6 c k p).1
      · rw [sI_2, sI_2, sL_n (by omega)]; exact (j6 c k p).2
    · have m1 : min 72 (rs.filter fw).length = 72 := Nat.min_eq_left (by omega)
      have m2 : min 72 (rs.filter fw ++ [r]).length = 72 := by rw [List.length_append, List.length_singleton]; exact Nat.min_eq_left (by omega)
      rw [m1] at j4 j5
      refine ⟨h, ?_, G, hC, j1, j2, j3, ⟨by rw [ef, m2]; exact j4, fun i hi => ?_⟩, j6⟩
      · generalize r.getD 0 0 = f0 at *
        generalize opp (r.getD (r.length - 1) 0) = f1 at *
        simp (disch := first | assumption | omega) only [c55, u55_0, u55_2, u55_3, u55_6, u55_8, u55_10, u55_12, u55_13, u55_14, u55_17, u55_18, u55_19, u55_20, u55_21, u55_23, u55_25, u55_27, u55_30, u55_31, u55_34, u55_36, u55_39, u55_40, u55_43, u55_44, u55_47, u55_48, u55_49, u55_50, u55_53, u55_54, u55_57, u55_58, u55_61, u55_62, u55_65, u55_66, u55_67, u55_67i, u55_68, u55_71, u55_72, u55_73, u55_76, ↓br_eq, ↓reduceIte, gd_true, ls_0, ls_1i, ls_1r, ls_1n, ls_1l, ls_2, ls2_eq, List.set_cons_zero, List.set_cons_succ, rf_s, cs_nil, cs_int, cs_ref, cs_long, Option.bind_some, Option.toList_some, Option.toList_none, List.nil_append, List.cons_append, Nat.reduceAdd, Nat.reduceSub, Nat.reduceMul, Nat.reduceLT, Nat.reduceLeDiff, Nat.reduceEqDiff, Int32.reduceAdd, Int32.reduceSub, Int32.reduceMul, Int32.reduceLT, Int32.reduceLE, Int32.reduceToInt, Int32.reduceToNatClampNeg, Int.reduceLE, Int.reduceLT, Int.reduceSub, Int.reduceToNat, and_self, true_and, and_true, or_true, true_or, false_or, or_false, false_and, and_false, not_false_eq_true, not_true_eq_false, eq_self, ↓li_m1, li_0, li_1, li_2, li_3, li_4, li_5, li_6, li_7, li_8, li_10, li_11, li_12, li_13, li_14, li_16, li_20, li_21, li_22, li_23, li_24, li_26, li_32, li_40, li_42, li_46, li_48, li_56, li_57, li_59, li_64, li_72, li_97, li_100, li_102, li_106, li_110, li_119, li_122, li_127, li_194, li_224, li_255, li_300, li_320, li_388, li_500, li_832, li_1000, ltT, ltF, leT, leF, eqT, eqF, eqmF, eqmF2, mlt, mle, mlt2, mle2, inT, cl, sbN, adm, mad, nI_add, pk_mul, dvN, rmN, rmN2, ofN, bo1, bo0, xle, xlt, xnl, xnt, xgt, xgt2, xge, xge0, xmo, dmN, kS0, lS0, kS1, lS1, kS2, lS2, kS3, lS3, kS4, lS4, kS5, lS5, kS6, lS6, kS7, lS7, kS8, fS8_0, fS8_1, fS8_2, fS8_3, fS8_4, fS8_5, fS8_6, fS8_7, fS8_8, fS8_9, kS9, lS9, fS9_0, fS9_1, fS9_2, fS9_3, fS9_4, fS9_5, fS9_6, fS9_7, kS10, fS10_0, fS10_1, kS11, fS11_0, kS12, lS12, kS13, fS13_5, fS13_6, fS13_7, fS13_8, fS13_9, kS14, lS14, kS15, lS15, kS16, lS16, kS17, lS17, kS18, lS18, kS19, fS19_5, fS19_6, fS19_7, fS19_8, fS19_9, kS20, lS20, kS21, lS21, kS22, lS22, kS23, lS23, kS24, lS24, kS25, lS25, fS25_0, fS25_1, kS26, kS27, fS27_3, fS27_4, fS27_5, kS28, lS28, kS29, lS29, kS30, lS30, kS31, fS31_3, fS31_4, kS32, lS32, kS33, lS33, kS34, fS34_3, fS34_4, kS35, lS35, kS36, lS36, kS37, kS38, fS38_0, kS39, lS39, kS40, fS40_0, kS41, lS41, kS42, fS42_0, kS43, lS43, kS44, fS44_0, kS45, lS45, kS46, fS46_0, kS47, lS47, kS48, fS48_0, kS49, lS49, kS50, fS50_0, kS51, lS51, kS52, fS52_0, kS53, lS53, kS54, fS54_0, kS55, lS55, kS56, fS56_5, fS56_6, fS56_7, fS56_8, fS56_9, kS57, lS57, kS58, lS58, kS59, lS59, kS60, lS60, kS61, lS61, kS62, fS62_5, fS62_6, fS62_7, fS62_8, fS62_9, kS63, lS63, kS64, lS64, kS65, lS65, kS66, lS66, kS67, lS67, kS68, fS68_2, fS68_3, fS68_4, fS68_5, fS68_6, fS68_8, fS68_18, fS68_19, fS68_21, fS68_22, fS68_23, fS68_24, fS68_25, fS68_26, fS68_27, fS68_28, fS68_30, fS68_32, fS68_33, fS68_34, fS68_35, kS69, lS69, kS70, lS70, kS71, lS71, kS72, lS72, kS73, lS73, kS74, lS74, kS75, lS75, kS76, lS76, kS77, lS77, kS78, lS78, kS79, lS79, kS80, lS80, kS81, lS81, kS82, lS82, kS83, lS83, kS84, lS84, kS85, lS85, kS86, lS86, kS87, lS87, kS88, lS88, kS89, lS89, k124, e1, e2, k3, s0, j4]
      · rw [ef, m2] at hi
        rw [ef]
        have eg : (rs.filter fw ++ [r]).getD i [] = (rs.filter fw).getD i [] := by
          rw [List.getD_eq_getElem?_getD, List.getD_eq_getElem?_getD, List.getElem?_append_left (by omega)]
        rw [eg]
        exact j5 i hi
set_option maxRecDepth 100000 in
set_option maxHeartbeats 400000 in
theorem k54 {g : Nat → Int32} {o w : Nat} (hw31 : 31 ≤ w) (hw34 : w ≤ 34) {L : Nat} (hs : rlS L w) {h : aH} (G : HG h g) (hC : ∀ j, h.1 1 j = strF j) (ho : inG g o) (d : Nat) : ∃ h', call (d + 14) 54 [.ref w, .ref 19, .int (nI o)] (S0 L) h = some (none, S0 L, h') ∧ RLk g o w ((dfs g o 8 o [o] []).filter fw) h' ∧ (∀ c k, ¬ (w ≤ c ∧ c < w + 3) → h'.1 c k = h.1 c k ∧ h'.2.1 c k = h.2.1 c k) := by
  have o56 := inG56 G.1.w7 G.1.h6 ho
  have wk : wk3 L w 55 := Or.inr (Or.inr ⟨hs.1, rfl⟩)
  have J0 : JR g o w h [] (sI (sI (sR (sI h w 5 (nI 0)) w 0 (some 19)) w 1 (nI o)) w 2 (nI 8)) := by
    refine ⟨G.of (fun c k p1 p2 => ⟨?_, rfl⟩), fun j => ?_, ?_, ?_, sI_e .., ⟨?_, fun i hi => ?_⟩, fun c k p => ⟨?_, rfl⟩⟩
    · rw [sI_n (by omega), sI_n (by omega), sR_1, sI_n (by omega)]
    · rw [sI_n (by omega), sI_n (by omega), sR_1, sI_n (by omega)]; exact hC j
    · show (sR (sI h w 5 (nI 0)) w 0 (some 19)).2.2 w 0 = some 19
      rw [sR_22, if_pos ⟨rfl, rfl⟩]
    · rw [sI_n (by omega), sI_e]
    · rw [sI_n (by omega), sI_n (by omega), sR_1, sI_e]; rfl
    · exfalso
      have : i < 0 := hi
      omega
    · rw [sI_n (by omega), sI_n (by omega), sR_1, sI_n (by omega)]
  obtain ⟨h2, b1, b2⟩ := goOn wk (show 8 ≤ 12 by omega) ho (fun rs h J => ⟨J.1, J.2.1, J.2.2.1, J.2.2.2.1, J.2.2.2.2.1⟩) (meetR (h0 := h) hw31 hw34 hs (fun _ _ => trivial)) d 8 o [o] [] (1 <<< ((nI o).toInt64 &&& 63)) 0 0 [] _ rfl rfl trivial List.nodup_nil (fun z => by cases z) (fun x => by
    rw [List.mem_singleton]
    exact ⟨Or.inl, fun z => z.elim id (fun y => by cases y)⟩) (fun i hi => by
    rw [lb_one_shl (by omega) hi, ← pB_dec]; congr 1; apply propext; rw [List.mem_singleton]) (fun i hi => by rw [lb_0]; rfl) (fun i hi => by
    rw [lb_0]; unfold pkW; rw [List.getD_eq_getElem?_getD]; show false = (0 : Nat).testBit _; rw [Nat.zero_testBit]) J0
  rw [List.nil_append] at b2
  refine ⟨h2, ?_, b2.2.2.2.2.2.1, b2.2.2.2.2.2.2⟩
  have hk3 := wk.k
  have hk5 := hs.1
  have b1' : call (d + 12) 79 [.ref w, .int (nI o), .int (nI 0), .long (1 <<< ((nI o).toInt64 &&& 63)), .long 0, .long 0] (S0 L) (sI (sI (sR (sI h w 5 (nI 0)) w 0 (some 19)) w 1 (nI o)) w 2 (nI 8)) = some (none, S0 L, h2) := b1
  simp (disch := first | assumption | omega) only [c54, u54_0, u54_1, u54_2, u54_5, u54_6, u54_7, u54_8, u54_10, u54_13, ↓br_eq, ↓reduceIte, gd_true, ls_0, ls_1i, ls_1r, ls_1n, ls_1l, ls_2, ls2_eq, List.set_cons_zero, List.set_cons_succ, rf_s, cs_nil, cs_int, cs_ref, cs_long, Option.bind_some, Option.toList_some, Option.toList_none, List.nil_append, List.cons_append, Nat.reduceAdd, Nat.reduceSub, Nat.reduceMul, Nat.reduceLT, Nat.reduceLeDiff, Nat.reduceEqDiff, Int32.reduceAdd, Int32.reduceSub, Int32.reduceMul, Int32.reduceLT, Int32.reduceLE, Int32.reduceToInt, Int32.reduceToNatClampNeg, Int.reduceLE, Int.reduceLT, Int.reduceSub, Int.reduceToNat, and_self, true_and, and_true, or_true, true_or, false_or, or_false, false_and, and_false, not_false_eq_true, not_true_eq_false, eq_self, ↓li_m1, li_0, li_1, li_2, li_3, li_4, li_5, li_6, li_7, li_8, li_10, li_11, li_12, li_13, li_14, li_16, li_20, li_21, li_22, li_23, li_24, li_26, li_32, li_40, li_42, li_46, li_48, li_56, li_57, li_59, li_64, li_72, li_97, li_100, li_102, li_106, li_110, li_119, li_122, li_127, li_194, li_224, li_255, li_300, li_320, li_388, li_500, li_832, li_1000, ltT, ltF, leT, leF, eqT, eqF, eqmF, eqmF2, mlt, mle, mlt2, mle2, inT, cl, sbN, adm, mad, nI_add, pk_mul, dvN, rmN, rmN2, ofN, bo1, bo0, xle, xlt, xnl, xnt, xgt, xgt2, xge, xge0, xmo, dmN, kS0, lS0, kS1, lS1, kS2, lS2, kS3, lS3, kS4, lS4, kS5, lS5, kS6, lS6, kS7, lS7, kS8, fS8_0, fS8_1, fS8_2, fS8_3, fS8_4, fS8_5, fS8_6, fS8_7, fS8_8, fS8_9, kS9, lS9, fS9_0, fS9_1, fS9_2, fS9_3, fS9_4, fS9_5, fS9_6, fS9_7, kS10, fS10_0, fS10_1, kS11, fS11_0, kS12, lS12, kS13, fS13_5, fS13_6, fS13_7, fS13_8, fS13_9, kS14, lS14, kS15, lS15, kS16, lS16, kS17, lS17, kS18, lS18, kS19, fS19_5, fS19_6, fS19_7, fS19_8, fS19_9, kS20, lS20, kS21, lS21, kS22, lS22, kS23, lS23, kS24, lS24, kS25, lS25, fS25_0, fS25_1, kS26, kS27, fS27_3, fS27_4, fS27_5, kS28, lS28, kS29, lS29, kS30, lS30, kS31, fS31_3, fS31_4, kS32, lS32, kS33, lS33, kS34, fS34_3, fS34_4, kS35, lS35, kS36, lS36, kS37, kS38, fS38_0, kS39, lS39, kS40, fS40_0, kS41, lS41, kS42, fS42_0, kS43, lS43, kS44, fS44_0, kS45, lS45, kS46, fS46_0, kS47, lS47, kS48, fS48_0, kS49, lS49, kS50, fS50_0, kS51, lS51, kS52, fS52_0, kS53, lS53, kS54, fS54_0, kS55, lS55, kS56, fS56_5, fS56_6, fS56_7, fS56_8, fS56_9, kS57, lS57, kS58, lS58, kS59, lS59, kS60, lS60, kS61, lS61, kS62, fS62_5, fS62_6, fS62_7, fS62_8, fS62_9, kS63, lS63, kS64, lS64, kS65, lS65, kS66, lS66, kS67, lS67, kS68, fS68_2, fS68_3, fS68_4, fS68_5, fS68_6, fS68_8, fS68_18, fS68_19, fS68_21, fS68_22, fS68_23, fS68_24, fS68_25, fS68_26, fS68_27, fS68_28, fS68_30, fS68_32, fS68_33, fS68_34, fS68_35, kS69, lS69, kS70, lS70, kS71, lS71, kS72, lS72, kS73, lS73, kS74, lS74, kS75, lS75, kS76, lS76, kS77, lS77, kS78, lS78, kS79, lS79, kS80, lS80, kS81, lS81, kS82, lS82, kS83, lS83, kS84, lS84, kS85, lS85, kS86, lS86, kS87, lS87, kS88, lS88, kS89, lS89, hk5, c78, u78_0, u78_1, u78_2, u78_5, u78_6, u78_7, u78_10, u78_11, u78_12, u78_15, u78_16, u78_17, u78_18, u78_19, u78_20, u78_21, u78_22, u78_26, hk3, wk.a, b1']
/-! the greatest of some numbers, the first of some pairs -/
def isMx (V : Nat → Prop) (m : Nat) : Prop := (∀ v, V v → v ≤ m) ∧ (m = 0 ∨ V m)
set_option maxRecDepth 100000 in
set_option maxHeartbeats 400000 in
theorem isMx_u {V : Nat → Prop} {m m' : Nat} (h : isMx V m) (h' : isMx V m') : m = m' := by
  rcases h.2 with a | a
  · rcases h'.2 with b | b
    · omega
    · have := h.1 m' b; omega
  · have h1 := h'.1 m a
    rcases h'.2 with b | b
    · omega
    · have := h.1 m' b; omega
def isLx (Q : Nat → Nat → Prop) : Option (Nat × Nat) → Prop
  | none => ∀ i w, ¬ Q i w
  | some (m, M) => Q m M ∧ ∀ i w, Q i w → m < i ∨ (m = i ∧ w ≤ M)
set_option maxRecDepth 100000 in
set_option maxHeartbeats 400000 in
theorem isLx_u {Q : Nat → Nat → Prop} {a b : Option (Nat × Nat)} (h : isLx Q a) (h' : isLx Q b) : a = b := by
  match a, b, h, h' with
  | none, none, _, _ => rfl
  | none, some (m, M), h, h' => exact absurd h'.1 (h m M)
  | some (m, M), none, h, h' => exact absurd h.1 (h' m M)
  | some (m, M), some (m', M'), h, h' =>
    have h1 := h.2 m' M' h'.1
    have h2 := h'.2 m M h.1
    have e1 : m = m' := by omega
    have e2 : M = M' := by omega
    rw [e1, e2]
def updL (a : Option (Nat × Nat)) (i w : Nat) : Option (Nat × Nat) := match a with
  | none => some (i, w)
  | some (m, M) => if i < m ∨ (i = m ∧ M < w) then some (i, w) else some (m, M)
set_option maxRecDepth 100000 in
set_option maxHeartbeats 400000 in
theorem isLx_s {Q : Nat → Nat → Prop} {a : Option (Nat × Nat)} (h : isLx Q a) (i w : Nat) : isLx (fun j v => Q j v ∨ (j = i ∧ v = w)) (updL a i w) := by
  match a, h with
  | none, h =>
    refine ⟨Or.inr ⟨rfl, rfl⟩, fun j v z => ?_⟩
    rcases z with z | ⟨z1, z2⟩
    · exact absurd z (h j v)
    · exact Or.inr ⟨z1.symm, by omega⟩
  | some (m, M), h =>
    unfold updL
    by_cases q : i < m ∨ (i = m ∧ M < w)
    · simp only [if_pos q]
      refine ⟨Or.inr ⟨rfl, rfl⟩, fun j v z => ?_⟩
      rcases z with z | ⟨z1, z2⟩
      · have := h.2 j v z; omega
      · exact Or.inr ⟨z1.symm, by omega⟩
    · simp only [if_neg q]
      refine ⟨Or.inl h.1, fun j v z => ?_⟩
      rcases z with z | ⟨z1, z2⟩
      · exact h.2 j v z
      · omega
set_option maxRecDepth 100000 in
set_option maxHeartbeats 400000 in
theorem isLx_c {Q Q' : Nat → Nat → Prop} {a : Option (Nat × Nat)} (e : ∀ i w, Q i w ↔ Q' i w) (h : isLx Q a) : isLx Q' a := by
  match a, h with
  | none, h => exact fun i w z => h i w ((e i w).mpr z)
  | some (m, M), h => exact ⟨(e m M).mp h.1, fun i w z => h.2 i w ((e i w).mpr z)⟩
/-! beside a ring -/
def vB (g : Nat → Int32) (o l : Nat) (f : Nat → Bool) (r : List Nat) : Prop := (∀ b, b < 64 → ins o r b = true → f b = false) ∧ ra g (ins o r) f ≤ l
set_option maxRecDepth 100000 in
set_option maxHeartbeats 400000 in
theorem z56 {g : Nat → Int32} {o w l : Nat} (hw31 : 31 ≤ w) (hw34 : w ≤ 34) {L : Nat} (hs : rlS L w) {h : aH} (G : HG h g) (hl : l ≤ 12) {K : List (List Nat)} (hK : K.length ≤ 72) (R : RLk g o w K h) {x : Int64} {f : Nat → Bool} (hx : ∀ b, b < 64 → lb x b = f b) (d : Nat) : ∀ (n k mo : Nat) (v7 : Value), k + n = K.length → isMx (fun v => ∃ i, i < k ∧ vB g o l f (K.getD i []) ∧ wo g o (K.getD i []) = v) mo → mo ≤ 576 → ∃ m, isMx (fun v => ∃ r, r ∈ K ∧ vB g o l f r ∧ wo g o r = v) m ∧ m ≤ 576 ∧ ev (d + 2) 56 6 [.ref w, .ref 19, .long x, .null, .int (nI l), .int (nI mo), .int (nI k), v7] [] (S0 L) h = some (some (.int (nI m)), S0 L, h) := by
  obtain ⟨s0, s1, s2, s3, s4, s5, s6⟩ := hs
  obtain ⟨j4, j5⟩ := R
  rw [Nat.min_eq_right hK] at j4 j5
  intro n
  induction n with
  | zero =>
    intro k mo v7 hk hm hb
    have hk' : k = K.length := by omega
    subst hk'
    refine ⟨mo, ⟨fun v z => ?_, ?_⟩, hb, ?_⟩
    · obtain ⟨r, hr, h1, h2⟩ := z
      obtain ⟨i, hi, e⟩ := List.getElem_of_mem hr
      exact hm.1 v ⟨i, hi, by rw [List.getD_eq_getElem?_getD, List.getElem?_eq_getElem hi, e]; exact h1, by rw [List.getD_eq_getElem?_getD, List.getElem?_eq_getElem hi, e]; exact h2⟩
    · rcases hm.2 with z | ⟨i, hi, h1, h2⟩
      · exact Or.inl z
      · refine Or.inr ⟨K.getD i [], ?_, h1, h2⟩
        rw [List.getD_eq_getElem?_getD, List.getElem?_eq_getElem hi]
        exact List.getElem_mem hi
    · rw [u56_6]
      simp (disch := first | assumption | omega) only [u56_0, u56_1, u56_3, u56_4, u56_8, u56_9, u56_12, u56_15, u56_16, u56_19, u56_21, u56_22, u56_23, u56_24, u56_25, u56_26, u56_29, u56_30, u56_33, u56_34, u56_36, u56_38, u56_41, u56_42, u56_45, u56_47, u56_48, u56_50, u56_53, u56_54, u56_55, u56_58, u56_60, u56_61, u56_62, u56_65, u56_67, u56_70, u56_71, u56_74, u56_76, u56_77, u56_79, u56_82, u56_85, u56_87, ↓br_eq, ↓reduceIte, gd_true, ls_0, ls_1i, ls_1r, ls_1n, ls_1l, ls_2, ls2_eq, List.set_cons_zero, List.set_cons_succ, rf_s, cs_nil, cs_int, cs_ref, cs_long, Option.bind_some, Option.toList_some, Option.toList_none, List.nil_append, List.cons_append, Nat.reduceAdd, Nat.reduceSub, Nat.reduceMul, Nat.reduceLT, Nat.reduceLeDiff, Nat.reduceEqDiff, Int32.reduceAdd, Int32.reduceSub, Int32.reduceMul, Int32.reduceLT, Int32.reduceLE, Int32.reduceToInt, Int32.reduceToNatClampNeg, Int.reduceLE, Int.reduceLT, Int.reduceSub, Int.reduceToNat, and_self, true_and, and_true, or_true, true_or, false_or, or_false, false_and, and_false, not_false_eq_true, not_true_eq_false, eq_self, ↓li_m1, li_0, li_1, li_2, li_3, li_4, li_5, li_6, li_7, li_8, li_10, li_11, li_12, li_13, li_14, li_16, li_20, li_21, li_22, li_23, li_24, li_26, li_32, li_40, li_42, li_46, li_48, li_56, li_57, li_59, li_64, li_72, li_97, li_100, li_102, li_106, li_110, li_119, li_122, li_127, li_194, li_224, li_255, li_300, li_320, li_388, li_500, li_832, li_1000, ltT, ltF, leT, leF, eqT, eqF, eqmF, eqmF2, mlt, mle, mlt2, mle2, inT, cl, sbN, adm, mad, nI_add, pk_mul, dvN, rmN, rmN2, ofN, bo1, bo0, xle, xlt, xnl, xnt, xgt, xgt2, xge, xge0, xmo, dmN, kS0, lS0, kS1, lS1, kS2, lS2, kS3, lS3, kS4, lS4, kS5, lS5, kS6, lS6, kS7, lS7, kS8, fS8_0, fS8_1, fS8_2, fS8_3, fS8_4, fS8_5, fS8_6, fS8_7, fS8_8, fS8_9, kS9, lS9, fS9_0, fS9_1, fS9_2, fS9_3, fS9_4, fS9_5, fS9_6, fS9_7, kS10, fS10_0, fS10_1, kS11, fS11_0, kS12, lS12, kS13, fS13_5, fS13_6, fS13_7, fS13_8, fS13_9, kS14, lS14, kS15, lS15, kS16, lS16, kS17, lS17, kS18, lS18, kS19, fS19_5, fS19_6, fS19_7, fS19_8, fS19_9, kS20, lS20, kS21, lS21, kS22, lS22, kS23, lS23, kS24, lS24, kS25, lS25, fS25_0, fS25_1, kS26, kS27, fS27_3, fS27_4, fS27_5, kS28, lS28, kS29, lS29, kS30, lS30, kS31, fS31_3, fS31_4, kS32, lS32, kS33, lS33, kS34, fS34_3, fS34_4, kS35, lS35, kS36, lS36, kS37, kS38, fS38_0, kS39, lS39, kS40, fS40_0, kS41, lS41, kS42, fS42_0, kS43, lS43, kS44, fS44_0, kS45, lS45, kS46, fS46_0, kS47, lS47, kS48, fS48_0, kS49, lS49, kS50, fS50_0, kS51, lS51, kS52, fS52_0, kS53, lS53, kS54, fS54_0, kS55, lS55, kS56, fS56_5, fS56_6, fS56_7, fS56_8, fS56_9, kS57, lS57, kS58, lS58, kS59, lS59, kS60, lS60, kS61, lS61, kS62, fS62_5, fS62_6, fS62_7, fS62_8, fS62_9, kS63, lS63, kS64, lS64, kS65, lS65, kS66, lS66, kS67, lS67, kS68, fS68_2, fS68_3, fS68_4, fS68_5, fS68_6, fS68_8, fS68_18, fS68_19, fS68_21, fS68_22, fS68_23, fS68_24, fS68_25, fS68_26, fS68_27, fS68_28, fS68_30, fS68_32, fS68_33, fS68_34, fS68_35, kS69, lS69, kS70, lS70, kS71, lS71, kS72, lS72, kS73, lS73, kS74, lS74, kS75, lS75, kS76, lS76, kS77, lS77, kS78, lS78, kS79, lS79, kS80, lS80, kS81, lS81, kS82, lS82, kS83, lS83, kS84, lS84, kS85, lS85, kS86, lS86, kS87, lS87, kS88, lS88, kS89, lS89, s0, j4]
  | succ n ih =>
    intro k mo v7 hk hm hb
    obtain ⟨u1, u2⟩ := j5 k (by omega)
    have wl := wth_le G.1 (ins o (K.getD k []))
    have ewo : wo g o (K.getD k []) = wth g (ins o (K.getD k [])) 64 := rfl
    have a1 := k35r G u1 hx L d
    have ral : ra g (ins o (K.getD k [])) f ≤ 128 := by
      unfold ra
      have := pct_le (fun b => bE (ins o (K.getD k [])) b && !fE g b && !bE f b) 64
      have := pct_le (fun b => bS (ins o (K.getD k [])) b && !fS g b && !bS f b) 64
      omega
    have stepN : ¬ (vB g o l f (K.getD k []) ∧ mo < wo g o (K.getD k [])) → isMx (fun v => ∃ i, i < k + 1 ∧ vB g o l f (K.getD i []) ∧ wo g o (K.getD i []) = v) mo := fun q => by
      refine ⟨fun v z => ?_, ?_⟩
      · obtain ⟨i, hi, h1, h2⟩ := z
        by_cases y : i = k
        · rw [y] at h1 h2
          apply Nat.le_of_not_lt
          intro t
          exact q ⟨h1, by omega⟩
        · exact hm.1 v ⟨i, by omega, h1, h2⟩
      · rcases hm.2 with z | ⟨i, hi, h1, h2⟩
        · exact Or.inl z
        · exact Or.inr ⟨i, by omega, h1, h2⟩
    rw [u56_6]
    by_cases q1 : ∀ b, b < 64 → ins o (K.getD k []) b = true → f b = false
    · have e1 := and_0T (x := h.2.1 (w + 1) k) (y := x) (by
        rintro ⟨b, hb', p1, p2⟩
        rw [u1 b hb'] at p1
        rw [hx b hb', q1 b hb' p1] at p2
        cases p2)
      by_cases q2 : mo < wo g o (K.getD k [])
      · by_cases q3 : ra g (ins o (K.getD k [])) f ≤ l
        · obtain ⟨m, c1, c2, c3⟩ := ih (k + 1) (wo g o (K.getD k [])) (.int (nI 1)) (by omega) ⟨fun v z => by
            obtain ⟨i, hi, h1, h2⟩ := z
            by_cases y : i = k
            · rw [y] at h2; omega
            · have := hm.1 v ⟨i, by omega, h1, h2⟩; omega, Or.inr ⟨k, by omega, ⟨q1, q3⟩, rfl⟩⟩ (by omega)
          refine ⟨m, c1, c2, ?_⟩
          generalize wo g o (K.getD k []) = wv at *
          simp (disch := first | assumption | omega) only [u56_0, u56_1, u56_3, u56_4, u56_8, u56_9, u56_12, u56_15, u56_16, u56_19, u56_21, u56_22, u56_23, u56_24, u56_25, u56_26, u56_29, u56_30, u56_33, u56_34, u56_36, u56_38, u56_41, u56_42, u56_45, u56_47, u56_48, u56_50, u56_53, u56_54, u56_55, u56_58, u56_60, u56_61, u56_62, u56_65, u56_67, u56_70, u56_71, u56_74, u56_76, u56_77, u56_79, u56_82, u56_85, u56_87, ↓br_eq, ↓reduceIte, gd_true, ls_0, ls_1i, ls_1r, ls_1n, ls_1l, ls_2, ls2_eq, List.set_cons_zero, List.set_cons_succ, rf_s, cs_nil, cs_int, cs_ref, cs_long, Option.bind_some, Option.toList_some, Option.toList_none, List.nil_append, List.cons_append, Nat.reduceAdd, Nat.reduceSub, Nat.reduceMul, Nat.reduceLT, Nat.reduceLeDiff, Nat.reduceEqDiff, Int32.reduceAdd, Int32.reduceSub, Int32.reduceMul, Int32.reduceLT, Int32.reduceLE, Int32.reduceToInt, Int32.reduceToNatClampNeg, Int.reduceLE, Int.reduceLT, Int.reduceSub, Int.reduceToNat, and_self, true_and, and_true, or_true, true_or, false_or, or_false, false_and, and_false, not_false_eq_true, not_true_eq_false, eq_self, ↓li_m1, li_0, li_1, li_2, li_3, li_4, li_5, li_6, li_7, li_8, li_10, li_11, li_12, li_13, li_14, li_16, li_20, li_21, li_22, li_23, li_24, li_26, li_32, li_40, li_42, li_46, li_48, li_56, li_57, li_59, li_64, li_72, li_97, li_100, li_102, li_106, li_110, li_119, li_122, li_127, li_194, li_224, li_255, li_300, li_320, li_388, li_500, li_832, li_1000, ltT, ltF, leT, leF, eqT, eqF, eqmF, eqmF2, mlt, mle, mlt2, mle2, inT, cl, sbN, adm, mad, nI_add, pk_mul, dvN, rmN, rmN2, ofN, bo1, bo0, xle, xlt, xnl, xnt, xgt, xgt2, xge, xge0, xmo, dmN, kS0, lS0, kS1, lS1, kS2, lS2, kS3, lS3, kS4, lS4, kS5, lS5, kS6, lS6, kS7, lS7, kS8, fS8_0, fS8_1, fS8_2, fS8_3, fS8_4, fS8_5, fS8_6, fS8_7, fS8_8, fS8_9, kS9, lS9, fS9_0, fS9_1, fS9_2, fS9_3, fS9_4, fS9_5, fS9_6, fS9_7, kS10, fS10_0, fS10_1, kS11, fS11_0, kS12, lS12, kS13, fS13_5, fS13_6, fS13_7, fS13_8, fS13_9, kS14, lS14, kS15, lS15, kS16, lS16, kS17, lS17, kS18, lS18, kS19, fS19_5, fS19_6, fS19_7, fS19_8, fS19_9, kS20, lS20, kS21, lS21, kS22, lS22, kS23, lS23, kS24, lS24, kS25, lS25, fS25_0, fS25_1, kS26, kS27, fS27_3, fS27_4, fS27_5, kS28, lS28, kS29, lS29, kS30, lS30, kS31, fS31_3, fS31_4, kS32, lS32, kS33, lS33, kS34, fS34_3, fS34_4, kS35, lS35, kS36, lS36, kS37, kS38, fS38_0, kS39, lS39, kS40, fS40_0, kS41, lS41, kS42, fS42_0, kS43, lS43, kS44, fS44_0, kS45, lS45, kS46, fS46_0, kS47, lS47, kS48, fS48_0, kS49, lS49, kS50, fS50_0, kS51, lS51, kS52, fS52_0, kS53, lS53, kS54, fS54_0, kS55, lS55, kS56, fS56_5, fS56_6, fS56_7, fS56_8, fS56_9, kS57, lS57, kS58, lS58, kS59, lS59, kS60, lS60, kS61, lS61, kS62, fS62_5, fS62_6, fS62_7, fS62_8, fS62_9, kS63, lS63, kS64, lS64, kS65, lS65, kS66, lS66, kS67, lS67, kS68, fS68_2, fS68_3, fS68_4, fS68_5, fS68_6, fS68_8, fS68_18, fS68_19, fS68_21, fS68_22, fS68_23, fS68_24, fS68_25, fS68_26, fS68_27, fS68_28, fS68_30, fS68_32, fS68_33, fS68_34, fS68_35, kS69, lS69, kS70, lS70, kS71, lS71, kS72, lS72, kS73, lS73, kS74, lS74, kS75, lS75, kS76, lS76, kS77, lS77, kS78, lS78, kS79, lS79, kS80, lS80, kS81, lS81, kS82, lS82, kS83, lS83, kS84, lS84, kS85, lS85, kS86, lS86, kS87, lS87, kS88, lS88, kS89, lS89, s0, s1, s2, s3, s4, s5, s6, j4, lcE, e1, u2, a1, c3]
        · obtain ⟨m, c1, c2, c3⟩ := ih (k + 1) mo (.int (nI 1)) (by omega) (stepN (fun z => q3 z.1.2)) hb
          refine ⟨m, c1, c2, ?_⟩
          generalize wo g o (K.getD k []) = wv at *
          simp (disch := first | assumption | omega) only [u56_0, u56_1, u56_3, u56_4, u56_8, u56_9, u56_12, u56_15, u56_16, u56_19, u56_21, u56_22, u56_23, u56_24, u56_25, u56_26, u56_29, u56_30, u56_33, u56_34, u56_36, u56_38, u56_41, u56_42, u56_45, u56_47, u56_48, u56_50, u56_53, u56_54, u56_55, u56_58, u56_60, u56_61, u56_62, u56_65, u56_67, u56_70, u56_71, u56_74, u56_76, u56_77, u56_79, u56_82, u56_85, u56_87, ↓br_eq, ↓reduceIte, gd_true, ls_0, ls_1i, ls_1r, ls_1n, ls_1l, ls_2, ls2_eq, List.set_cons_zero, List.set_cons_succ, rf_s, cs_nil, cs_int, cs_ref, cs_long, Option.bind_some, Option.toList_some, Option.toList_none, List.nil_append, List.cons_append, Nat.reduceAdd, Nat.reduceSub, Nat.reduceMul, Nat.reduceLT, Nat.reduceLeDiff, Nat.reduceEqDiff, Int32.reduceAdd, Int32.reduceSub, Int32.reduceMul, Int32.reduceLT, Int32.reduceLE, Int32.reduceToInt, Int32.reduceToNatClampNeg, Int.reduceLE, Int.reduceLT, Int.reduceSub, Int.reduceToNat, and_self, true_and, and_true, or_true, true_or, false_or, or_false, false_and, and_false, not_false_eq_true, not_true_eq_false, eq_self, ↓li_m1, li_0, li_1, li_2, li_3, li_4, li_5, li_6, li_7, li_8, li_10, li_11, li_12, li_13, li_14, li_16, li_20, li_21, li_22, li_23, li_24, li_26, li_32, li_40, li_42, li_46, li_48, li_56, li_57, li_59, li_64, li_72, li_97, li_100, li_102, li_106, li_110, li_119, li_122, li_127, li_194, li_224, li_255, li_300, li_320, li_388, li_500, li_832, li_1000, ltT, ltF, leT, leF, eqT, eqF, eqmF, eqmF2, mlt, mle, mlt2, mle2, inT, cl, sbN, adm, mad, nI_add, pk_mul, dvN, rmN, rmN2, ofN, bo1, bo0, xle, xlt, xnl, xnt, xgt, xgt2, xge, xge0, xmo, dmN, kS0, lS0, kS1, lS1, kS2, lS2, kS3, lS3, kS4, lS4, kS5, lS5, kS6, lS6, kS7, lS7, kS8, fS8_0, fS8_1, fS8_2, fS8_3, fS8_4, fS8_5, fS8_6, fS8_7, fS8_8, fS8_9, kS9, lS9, fS9_0, fS9_1, fS9_2, fS9_3, fS9_4, fS9_5, fS9_6, fS9_7, kS10, fS10_0, fS10_1, kS11, fS11_0, kS12, lS12, kS13, fS13_5, fS13_6, fS13_7, fS13_8, fS13_9, kS14, lS14, kS15, lS15, kS16, lS16, kS17, lS17, kS18, lS18, kS19, fS19_5, fS19_6, fS19_7, fS19_8, fS19_9, kS20, lS20, kS21, lS21, kS22, lS22, kS23, lS23, kS24, lS24, kS25, lS25, fS25_0, fS25_1, kS26, kS27, fS27_3, fS27_4, fS27_5, kS28, lS28, kS29, lS29, kS30, lS30, kS31, fS31_3, fS31_4, kS32, lS32, kS33, lS33, kS34, fS34_3, fS34_4, kS35, lS35, kS36, lS36, kS37, kS38, fS38_0, kS39, lS39, kS40, fS40_0, kS41, lS41, kS42, fS42_0, kS43, lS43, kS44, fS44_0, kS45, lS45, kS46, fS46_0, kS47, lS47, kS48, fS48_0, kS49, lS49, kS50, fS50_0, kS51, lS51, kS52, fS52_0, kS53, lS53, kS54, fS54_0, kS55, lS55, kS56, fS56_5, fS56_6, fS56_7, fS56_8, fS56_9, kS57, lS57, kS58, lS58, kS59, lS59, kS60, lS60, kS61, lS61, kS62, fS62_5, fS62_6, fS62_7, fS62_8, fS62_9, kS63, lS63, kS64, lS64, kS65, lS65, kS66, lS66, kS67, lS67, kS68, fS68_2, fS68_3, fS68_4, fS68_5, fS68_6, fS68_8, fS68_18, fS68_19, fS68_21, fS68_22, fS68_23, fS68_24, fS68_25, fS68_26, fS68_27, fS68_28, fS68_30, fS68_32, fS68_33, fS68_34, fS68_35, kS69, lS69, kS70, lS70, kS71, lS71, kS72, lS72, kS73, lS73, kS74, lS74, kS75, lS75, kS76, lS76, kS77, lS77, kS78, lS78, kS79, lS79, kS80, lS80, kS81, lS81, kS82, lS82, kS83, lS83, kS84, lS84, kS85, lS85, kS86, lS86, kS87, lS87, kS88, lS88, kS89, lS89, s0, s1, s2, s3, s4, s5, s6, j4, lcE, e1, u2, a1, c3]
      · obtain ⟨m, c1, c2, c3⟩ := ih (k + 1) mo (.int (nI 1)) (by omega) (stepN (fun z => q2 z.2)) hb
        refine ⟨m, c1, c2, ?_⟩
        generalize wo g o (K.getD k []) = wv at *
        simp (disch := first | assumption | omega) only [u56_0, u56_1, u56_3, u56_4, u56_8, u56_9, u56_12, u56_15, u56_16, u56_19, u56_21, u56_22, u56_23, u56_24, u56_25, u56_26, u56_29, u56_30, u56_33, u56_34, u56_36, u56_38, u56_41, u56_42, u56_45, u56_47, u56_48, u56_50, u56_53, u56_54, u56_55, u56_58, u56_60, u56_61, u56_62, u56_65, u56_67, u56_70, u56_71, u56_74, u56_76, u56_77, u56_79, u56_82, u56_85, u56_87, ↓br_eq, ↓reduceIte, gd_true, ls_0, ls_1i, ls_1r, ls_1n, ls_1l, ls_2, ls2_eq, List.set_cons_zero, List.set_cons_succ, rf_s, cs_nil, cs_int, cs_ref, cs_long, Option.bind_some, Option.toList_some, Option.toList_none, List.nil_append, List.cons_append, Nat.reduceAdd, Nat.reduceSub, Nat.reduceMul, Nat.reduceLT, Nat.reduceLeDiff, Nat.reduceEqDiff, Int32.reduceAdd, Int32.reduceSub, Int32.reduceMul, Int32.reduceLT, Int32.reduceLE, Int32.reduceToInt, Int32.reduceToNatClampNeg, Int.reduceLE, Int.reduceLT, Int.reduceSub, Int.reduceToNat, and_self, true_and, and_true, or_true, true_or, false_or, or_false, false_and, and_false, not_false_eq_true, not_true_eq_false, eq_self, ↓li_m1, li_0, li_1, li_2, li_3, li_4, li_5, li_6, li_7, li_8, li_10, li_11, li_12, li_13, li_14, li_16, li_20, li_21, li_22, li_23, li_24, li_26, li_32, li_40, li_42, li_46, li_48, li_56, li_57, li_59, li_64, li_72, li_97, li_100, li_102, li_106, li_110, li_119, li_122, li_127, li_194, li_224, li_255, li_300, li_320, li_388, li_500, li_832, li_1000, ltT, ltF, leT, leF, eqT, eqF, eqmF, eqmF2, mlt, mle, mlt2, mle2, inT, cl, sbN, adm, mad, nI_add, pk_mul, dvN, rmN, rmN2, ofN, bo1, bo0, xle, xlt, xnl, xnt, xgt, xgt2, xge, xge0, xmo, dmN, kS0, lS0, kS1, lS1, kS2, lS2, kS3, lS3, kS4, lS4, kS5, lS5, kS6, lS6, kS7, lS7, kS8, fS8_0, fS8_1, fS8_2, fS8_3, fS8_4, fS8_5, fS8_6, fS8_7, fS8_8, fS8_9, kS9, lS9, fS9_0, fS9_1, fS9_2, fS9_3, fS9_4, fS9_5, fS9_6, fS9_7, kS10, fS10_0, fS10_1, kS11, fS11_0, kS12, lS12, kS13, fS13_5, fS13_6, fS13_7, fS13_8, fS13_9, kS14, lS14, kS15, lS15, kS16, lS16, kS17, lS17, kS18, lS18, kS19, fS19_5, fS19_6, fS19_7, fS19_8, fS19_9, kS20, lS20, kS21, lS21, kS22, lS22, kS23, lS23, kS24, lS24, kS25, lS25, fS25_0, fS25_1, kS26, kS27, fS27_3, fS27_4, fS27_5, kS28, lS28, kS29, lS29, kS30, lS30, kS31, fS31_3, fS31_4, kS32, lS32, kS33, lS33, kS34, fS34_3, fS34_4, kS35, lS35, kS36, lS36, kS37, kS38, fS38_0, kS39, lS39, kS40, fS40_0, kS41, lS41, kS42, fS42_0, kS43, lS43, kS44, fS44_0, kS45, lS45, kS46, fS46_0, kS47, lS47, kS48, fS48_0, kS49, lS49, kS50, fS50_0, kS51, lS51, kS52, fS52_0, kS53, lS53, kS54, fS54_0, kS55, lS55, kS56, fS56_5, fS56_6, fS56_7, fS56_8, fS56_9, kS57, lS57, kS58, lS58, kS59, lS59, kS60, lS60, kS61, lS61, kS62, fS62_5, fS62_6, fS62_7, fS62_8, fS62_9, kS63, lS63, kS64, lS64, kS65, lS65, kS66, lS66, kS67, lS67, kS68, fS68_2, fS68_3, fS68_4, fS68_5, fS68_6, fS68_8, fS68_18, fS68_19, fS68_21, fS68_22, fS68_23, fS68_24, fS68_25, fS68_26, fS68_27, fS68_28, fS68_30, fS68_32, fS68_33, fS68_34, fS68_35, kS69, lS69, kS70, lS70, kS71, lS71, kS72, lS72, kS73, lS73, kS74, lS74, kS75, lS75, kS76, lS76, kS77, lS77, kS78, lS78, kS79, lS79, kS80, lS80, kS81, lS81, kS82, lS82, kS83, lS83, kS84, lS84, kS85, lS85, kS86, lS86, kS87, lS87, kS88, lS88, kS89, lS89, s0, s1, s2, s3, s4, s5, s6, j4, lcE, e1, u2, c3]
    · have e1 := and_0F (x := h.2.1 (w + 1) k) (y := x) (by
        apply Classical.byContradiction
        intro z
        apply q1
        intro b hb' p1
        cases hf : f b with
        | false => rfl
        | true => exact absurd ⟨b, hb', by rw [u1 b hb']; exact p1, by rw [hx b hb']; exact hf⟩ z)
      obtain ⟨m, c1, c2, c3⟩ := ih (k + 1) mo (.int (nI 0)) (by omega) (stepN (fun z => q1 z.1.1)) hb
      refine ⟨m, c1, c2, ?_⟩
      simp (disch := first | assumption | omega) only [u56_0, u56_1, u56_3, u56_4, u56_8, u56_9, u56_12, u56_15, u56_16, u56_19, u56_21, u56_22, u56_23, u56_24, u56_25, u56_26, u56_29, u56_30, u56_33, u56_34, u56_36, u56_38, u56_41, u56_42, u56_45, u56_47, u56_48, u56_50, u56_53, u56_54, u56_55, u56_58, u56_60, u56_61, u56_62, u56_65, u56_67, u56_70, u56_71, u56_74, u56_76, u56_77, u56_79, u56_82, u56_85, u56_87, ↓br_eq, ↓reduceIte, gd_true, ls_0, ls_1i, ls_1r, ls_1n, ls_1l, ls_2, ls2_eq, List.set_cons_zero, List.set_cons_succ, rf_s, cs_nil, cs_int, cs_ref, cs_long, Option.bind_some, Option.toList_some, Option.toList_none, List.nil_append, List.cons_append, Nat.reduceAdd, Nat.reduceSub, Nat.reduceMul, Nat.reduceLT, Nat.reduceLeDiff, Nat.reduceEqDiff, Int32.reduceAdd, Int32.reduceSub, Int32.reduceMul, Int32.reduceLT, Int32.reduceLE, Int32.reduceToInt, Int32.reduceToNatClampNeg, Int.reduceLE, Int.reduceLT, Int.reduceSub, Int.reduceToNat, and_self, true_and, and_true, or_true, true_or, false_or, or_false, false_and, and_false, not_false_eq_true, not_true_eq_false, eq_self, ↓li_m1, li_0, li_1, li_2, li_3, li_4, li_5, li_6, li_7, li_8, li_10, li_11, li_12, li_13, li_14, li_16, li_20, li_21, li_22, li_23, li_24, li_26, li_32, li_40, li_42, li_46, li_48, li_56, li_57, li_59, li_64, li_72, li_97, li_100, li_102, li_106, li_110, li_119, li_122, li_127, li_194, li_224, li_255, li_300, li_320, li_388, li_500, li_832, li_1000, ltT, ltF, leT, leF, eqT, eqF, eqmF, eqmF2, mlt, mle, mlt2, mle2, inT, cl, sbN, adm, mad, nI_add, pk_mul, dvN, rmN, rmN2, ofN, bo1, bo0, xle, xlt, xnl, xnt, xgt, xgt2, xge, xge0, xmo, dmN, kS0, lS0, kS1, lS1, kS2, lS2, kS3, lS3, kS4, lS4, kS5, lS5, kS6, lS6, kS7, lS7, kS8, fS8_0, fS8_1, fS8_2, fS8_3, fS8_4, fS8_5, fS8_6, fS8_7, fS8_8, fS8_9, kS9, lS9, fS9_0, fS9_1, fS9_2, fS9_3, fS9_4, fS9_5, fS9_6, fS9_7, kS10, fS10_0, fS10_1, kS11, fS11_0, kS12, lS12, kS13, fS13_5, fS13_6, fS13_7, fS13_8, fS13_9, kS14, lS14, kS15, lS15, kS16, lS16, kS17, lS17, kS18, lS18, kS19, fS19_5, fS19_6, fS19_7, fS19_8, fS19_9, kS20, lS20, kS21, lS21, kS22, lS22, kS23, lS23, kS24, lS24, kS25, lS25, fS25_0, fS25_1, kS26, kS27, fS27_3, fS27_4, fS27_5, kS28, lS28, kS29, lS29, kS30, lS30, kS31, fS31_3, fS31_4, kS32, lS32, kS33, lS33, kS34, fS34_3, fS34_4, kS35, lS35, kS36, lS36, kS37, kS38, fS38_0, kS39, lS39, kS40, fS40_0, kS41, lS41, kS42, fS42_0, kS43, lS43, kS44, fS44_0, kS45, lS45, kS46, fS46_0, kS47, lS47, kS48, fS48_0, kS49, lS49, kS50, fS50_0, kS51, lS51, kS52, fS52_0, kS53, lS53, kS54, fS54_0, kS55, lS55, kS56, fS56_5, fS56_6, fS56_7, fS56_8, fS56_9, kS57, lS57, kS58, lS58, kS59, lS59, kS60, lS60, kS61, lS61, kS62, fS62_5, fS62_6, fS62_7, fS62_8, fS62_9, kS63, lS63, kS64, lS64, kS65, lS65, kS66, lS66, kS67, lS67, kS68, fS68_2, fS68_3, fS68_4, fS68_5, fS68_6, fS68_8, fS68_18, fS68_19, fS68_21, fS68_22, fS68_23, fS68_24, fS68_25, fS68_26, fS68_27, fS68_28, fS68_30, fS68_32, fS68_33, fS68_34, fS68_35, kS69, lS69, kS70, lS70, kS71, lS71, kS72, lS72, kS73, lS73, kS74, lS74, kS75, lS75, kS76, lS76, kS77, lS77, kS78, lS78, kS79, lS79, kS80, lS80, kS81, lS81, kS82, lS82, kS83, lS83, kS84, lS84, kS85, lS85, kS86, lS86, kS87, lS87, kS88, lS88, kS89, lS89, s0, s1, s3, s4, j4, lcE, e1, c3]
set_option maxRecDepth 100000 in
set_option maxHeartbeats 400000 in
theorem k56 {g : Nat → Int32} {o w l : Nat} (hw31 : 31 ≤ w) (hw34 : w ≤ 34) {L : Nat} (hs : rlS L w) {h : aH} (G : HG h g) (hl : l ≤ 12) {K : List (List Nat)} (hK : K.length ≤ 72) (R : RLk g o w K h) {x : Int64} {f : Nat → Bool} (hx : ∀ b, b < 64 → lb x b = f b) (d : Nat) : ∃ m, isMx (fun v => ∃ r, r ∈ K ∧ vB g o l f r ∧ wo g o r = v) m ∧ m ≤ 576 ∧ call (d + 2) 56 [.ref w, .ref 19, .long x, .int (nI l)] (S0 L) h = some (some (.int (nI m)), S0 L, h) := by
  obtain ⟨m, c1, c2, c3⟩ := z56 hw31 hw34 hs G hl hK R hx d K.length 0 0 .null (by omega) ⟨fun v ⟨i, hi, _⟩ => by omega, Or.inl rfl⟩ (by omega)
  refine ⟨m, c1, c2, ?_⟩
  simp (disch := first | assumption | omega) only [c56, u56_0, u56_1, u56_3, u56_4, u56_8, u56_9, u56_12, u56_15, u56_16, u56_19, u56_21, u56_22, u56_23, u56_24, u56_25, u56_26, u56_29, u56_30, u56_33, u56_34, u56_36, u56_38, u56_41, u56_42, u56_45, u56_47, u56_48, u56_50, u56_53, u56_54, u56_55, u56_58, u56_60, u56_61, u56_62, u56_65, u56_67, u56_70, u56_71, u56_74, u56_76, u56_77, u56_79, u56_82, u56_85, u56_87, ↓br_eq, ↓reduceIte, gd_true, ls_0, ls_1i, ls_1r, ls_1n, ls_1l, ls_2, ls2_eq, List.set_cons_zero, List.set_cons_succ, rf_s, cs_nil, cs_int, cs_ref, cs_long, Option.bind_some, Option.toList_some, Option.toList_none, List.nil_append, List.cons_append, Nat.reduceAdd, Nat.reduceSub, Nat.reduceMul, Nat.reduceLT, Nat.reduceLeDiff, Nat.reduceEqDiff, Int32.reduceAdd, Int32.reduceSub, Int32.reduceMul, Int32.reduceLT, Int32.reduceLE, Int32.reduceToInt, Int32.reduceToNatClampNeg, Int.reduceLE, Int.reduceLT, Int.reduceSub, Int.reduceToNat, and_self, true_and, and_true, or_true, true_or, false_or, or_false, false_and, and_false, not_false_eq_true, not_true_eq_false, eq_self, ↓li_m1, li_0, li_1, li_2, li_3, li_4, li_5, li_6, li_7, li_8, li_10, li_11, li_12, li_13, li_14, li_16, li_20, li_21, li_22, li_23, li_24, li_26, li_32, li_40, li_42, li_46, li_48, li_56, li_57, li_59, li_64, li_72, li_97, li_100, li_102, li_106, li_110, li_119, li_122, li_127, li_194, li_224, li_255, li_300, li_320, li_388, li_500, li_832, li_1000, ltT, ltF, leT, leF, eqT, eqF, eqmF, eqmF2, mlt, mle, mlt2, mle2, inT, cl, sbN, adm, mad, nI_add, pk_mul, dvN, rmN, rmN2, ofN, bo1, bo0, xle, xlt, xnl, xnt, xgt, xgt2, xge, xge0, xmo, dmN, kS0, lS0, kS1, lS1, kS2, lS2, kS3, lS3, kS4, lS4, kS5, lS5, kS6, lS6, kS7, lS7, kS8, fS8_0, fS8_1, fS8_2, fS8_3, fS8_4, fS8_5, fS8_6, fS8_7, fS8_8, fS8_9, kS9, lS9, fS9_0, fS9_1, fS9_2, fS9_3, fS9_4, fS9_5, fS9_6, fS9_7, kS10, fS10_0, fS10_1, kS11, fS11_0, kS12, lS12, kS13, fS13_5, fS13_6, fS13_7, fS13_8, fS13_9, kS14, lS14, kS15, lS15, kS16, lS16, kS17, lS17, kS18, lS18, kS19, fS19_5, fS19_6, fS19_7, fS19_8, fS19_9, kS20, lS20, kS21, lS21, kS22, lS22, kS23, lS23, kS24, lS24, kS25, lS25, fS25_0, fS25_1, kS26, kS27, fS27_3, fS27_4, fS27_5, kS28, lS28, kS29, lS29, kS30, lS30, kS31, fS31_3, fS31_4, kS32, lS32, kS33, lS33, kS34, fS34_3, fS34_4, kS35, lS35, kS36, lS36, kS37, kS38, fS38_0, kS39, lS39, kS40, fS40_0, kS41, lS41, kS42, fS42_0, kS43, lS43, kS44, fS44_0, kS45, lS45, kS46, fS46_0, kS47, lS47, kS48, fS48_0, kS49, lS49, kS50, fS50_0, kS51, lS51, kS52, fS52_0, kS53, lS53, kS54, fS54_0, kS55, lS55, kS56, fS56_5, fS56_6, fS56_7, fS56_8, fS56_9, kS57, lS57, kS58, lS58, kS59, lS59, kS60, lS60, kS61, lS61, kS62, fS62_5, fS62_6, fS62_7, fS62_8, fS62_9, kS63, lS63, kS64, lS64, kS65, lS65, kS66, lS66, kS67, lS67, kS68, fS68_2, fS68_3, fS68_4, fS68_5, fS68_6, fS68_8, fS68_18, fS68_19, fS68_21, fS68_22, fS68_23, fS68_24, fS68_25, fS68_26, fS68_27, fS68_28, fS68_30, fS68_32, fS68_33, fS68_34, fS68_35, kS69, lS69, kS70, lS70, kS71, lS71, kS72, lS72, kS73, lS73, kS74, lS74, kS75, lS75, kS76, lS76, kS77, lS77, kS78, lS78, kS79, lS79, kS80, lS80, kS81, lS81, kS82, lS82, kS83, lS83, kS84, lS84, kS85, lS85, kS86, lS86, kS87, lS87, kS88, lS88, kS89, lS89, c3]
