/-! the most worth, by the class: learnt for every rope at once -/
set_option maxRecDepth 100000 in
set_option maxHeartbeats 400000 in
theorem wOp_mono {g : Nat → Int32} {c l l' : Nat} (hll : l ≤ l') : ∀ (rs : List (List Nat)) (o o' : Option (List Nat)), wOp g c o ≤ wOp g c o' → wOp g c (rs.foldl (bst g c l) o) ≤ wOp g c (rs.foldl (bst g c l') o')
  | [], _, _, h => h
  | r :: rs, o, o', h => by
    rw [List.foldl_cons, List.foldl_cons]
    refine wOp_mono hll rs _ _ ?_
    rw [bst_wOp, bst_wOp]
    by_cases q1 : rp g c r ≤ l ∧ wOp g c o < wo g c r
    · rw [if_pos q1]
      by_cases q2 : rp g c r ≤ l' ∧ wOp g c o' < wo g c r
      · rw [if_pos q2]; exact Int.le_refl _
      · rw [if_neg q2]
        have : ¬ wOp g c o' < wo g c r := fun z => q2 ⟨by omega, z⟩
        omega
    · rw [if_neg q1]
      by_cases q2 : rp g c r ≤ l' ∧ wOp g c o' < wo g c r
      · rw [if_pos q2]; omega
      · rw [if_neg q2]; exact h
/-- an entry of the table -/
def ent (g : Nat → Int32) (c : Nat) (ob : Option (List Nat)) (w s : Int32) (y : Int64) : Prop := match ob with
  | none => w = nNo ∧ s = nI 0
  | some ws => w = nI (wo g c ws) ∧ s = nI ws.length ∧ ∀ i, i < 64 → lb y i = pkW ws i
set_option maxRecDepth 100000 in
set_option maxHeartbeats 400000 in
theorem tbl_iff {h : aH} {g : Nat → Int32} {c : Nat} : tbl h g c ↔ ∀ l, l ≤ 12 → ent g c (bestOf g c l (dfs g c 12 c [c] [])) (h.1 28 (13 * c + l)) (h.1 29 (13 * c + l)) (h.2.1 30 (13 * c + l)) := by
  unfold tbl ent
  constructor
  · intro H l hl
    have := H l hl
    cases hb : bestOf g c l (dfs g c 12 c [c] []) with
    | none => rw [hb] at this; exact this
    | some ws => rw [hb] at this; exact this
  · intro H l hl
    have := H l hl
    cases hb : bestOf g c l (dfs g c 12 c [c] []) with
    | none => rw [hb] at this; exact this
    | some ws => rw [hb] at this; exact this
set_option maxRecDepth 100000 in
set_option maxHeartbeats 400000 in
theorem ent_lt {g : Nat → Int32} (Hw : wfG g) {c : Nat} {ob : Option (List Nat)} {w s : Int32} {y : Int64} (H : ent g c ob w s y) (v : Nat) (hv : v < 1000) : (nI v ≤ w) = ¬ (wOp g c ob < v) := by
  cases ob with
  | none =>
    rw [H.1, le_no (by omega)]
    apply propext
    constructor
    · intro z; exact z.elim
    · intro z
      apply z
      show (-1 : Int) < v
      omega
  | some ws =>
    have wl := wth_le Hw (ins c ws)
    have e3 : wo g c ws = wth g (ins c ws) 64 := rfl
    rw [H.1]
    apply propext
    rw [nI_leI (by omega) (by omega)]
    show v ≤ wo g c ws ↔ ¬ ((wo g c ws : Int) < v)
    omega
set_option maxRecDepth 100000 in
set_option maxHeartbeats 400000 in
theorem z17 {g : Nat → Int32} {o wv : Nat} (Hw : wfG g) (ho : o < 56) (hwv : wv < 1000) (obs : Nat → Option (List Nat)) (hmono : ∀ a b, a ≤ b → wOp g o (obs a) ≤ wOp g o (obs b)) (x1 x3 y : Int64) (n9 : Int32) (sl : Int32) (L d : Nat) : ∀ (k i : Nat), (i + k = 13 ∨ (13 ≤ i ∧ k = 0)) → i < 1000 → ∀ h : aH, h.1 27 7 = nI (13 * o) → (∀ l, i ≤ l → l < 13 → ent g o (obs l) (h.1 28 (13 * o + l)) (h.1 29 (13 * o + l)) (h.2.1 30 (13 * o + l))) → ∃ h', ev d 17 25 [.ref 27, .long x1, .null, .long x3, .null, .long y, .null, .int sl, .int (nI wv), .int n9, .int (nI i)] [] (S0 L) h = some (none, S0 L, h') ∧ (∀ l, l < 13 → (i ≤ l ∧ wOp g o (obs l) < wv → h'.1 28 (13 * o + l) = nI wv ∧ h'.1 29 (13 * o + l) = sl ∧ h'.2.1 30 (13 * o + l) = y) ∧ (¬ (i ≤ l ∧ wOp g o (obs l) < wv) → h'.1 28 (13 * o + l) = h.1 28 (13 * o + l) ∧ h'.1 29 (13 * o + l) = h.1 29 (13 * o + l) ∧ h'.2.1 30 (13 * o + l) = h.2.1 30 (13 * o + l))) ∧ (∀ c q, ¬ ((c = 28 ∨ c = 29) ∧ 13 * o ≤ q ∧ q < 13 * o + 13) → h'.1 c q = h.1 c q) ∧ (∀ c q, ¬ (c = 30 ∧ 13 * o ≤ q ∧ q < 13 * o + 13) → h'.2.1 c q = h.2.1 c q) ∧ h'.2.2 = h.2.2 := by
  intro k
  induction k with
  | zero =>
    intro i hi hi2 h e1 he
    refine ⟨h, ?_, fun l hl => ⟨fun z => by omega, fun _ => ⟨rfl, rfl, rfl⟩⟩, fun _ _ _ => rfl, fun _ _ _ => rfl, rfl⟩
    rw [u17_25]
    simp (disch := first | assumption | omega) only [u17_0, u17_1, u17_4, u17_5, u17_8, u17_10, u17_11, u17_14, u17_15, u17_16, u17_19, u17_21, u17_23, u17_27, u17_29, u17_32, u17_33, u17_36, u17_37, u17_40, u17_42, u17_43, u17_44, u17_46, u17_49, u17_50, u17_53, u17_54, u17_57, u17_59, u17_60, u17_62, u17_63, u17_64, u17_67, u17_68, u17_71, u17_73, u17_74, u17_76, u17_77, u17_78, u17_81, u17_82, u17_85, u17_87, u17_88, u17_90, u17_91, u17_94, u17_97, ↓br_eq, ↓reduceIte, gd_true, ls_0, ls_1i, ls_1r, ls_1n, ls_1l, ls_2, ls2_eq, List.set_cons_zero, List.set_cons_succ, rf_s, cs_nil, cs_int, cs_ref, cs_long, Option.bind_some, Option.toList_some, Option.toList_none, List.nil_append, List.cons_append, Nat.reduceAdd, Nat.reduceSub, Nat.reduceMul, Nat.reduceLT, Nat.reduceLeDiff, Nat.reduceEqDiff, Int32.reduceAdd, Int32.reduceSub, Int32.reduceMul, Int32.reduceLT, Int32.reduceLE, Int32.reduceToInt, Int32.reduceToNatClampNeg, Int.reduceLE, Int.reduceLT, Int.reduceSub, Int.reduceToNat, and_self, true_and, and_true, or_true, true_or, false_or, or_false, false_and, and_false, not_false_eq_true, not_true_eq_false, eq_self, ↓li_m1, li_0, li_1, li_2, li_3, li_4, li_5, li_6, li_7, li_8, li_10, li_11, li_12, li_13, li_14, li_16, li_20, li_21, li_22, li_23, li_24, li_26, li_32, li_40, li_42, li_46, li_48, li_56, li_57, li_59, li_64, li_72, li_97, li_100, li_102, li_106, li_110, li_119, li_122, li_127, li_194, li_224, li_255, li_300, li_320, li_388, li_500, li_832, li_1000, ltT, ltF, leT, leF, eqT, eqF, eqmF, eqmF2, mlt, mle, mlt2, mle2, inT, cl, sbN, adm, mad, nI_add, pk_mul, dvN, rmN, rmN2, ofN, bo1, bo0, xle, xlt, xnl, xnt, xgt, xgt2, xge, xge0, xmo, dmN, kS0, lS0, kS1, lS1, kS2, lS2, kS3, lS3, kS4, lS4, kS5, lS5, kS6, lS6, kS7, lS7, kS8, fS8_0, fS8_1, fS8_2, fS8_3, fS8_4, fS8_5, fS8_6, fS8_7, fS8_8, fS8_9, kS9, lS9, fS9_0, fS9_1, fS9_2, fS9_3, fS9_4, fS9_5, fS9_6, fS9_7, kS10, fS10_0, fS10_1, kS11, fS11_0, kS12, lS12, kS13, fS13_5, fS13_6, fS13_7, fS13_8, fS13_9, kS14, lS14, kS15, lS15, kS16, lS16, kS17, lS17, kS18, lS18, kS19, fS19_5, fS19_6, fS19_7, fS19_8, fS19_9, kS20, lS20, kS21, lS21, kS22, lS22, kS23, lS23, kS24, lS24, kS25, lS25, fS25_0, fS25_1, kS26, kS27, fS27_3, fS27_4, fS27_5, kS28, lS28, kS29, lS29, kS30, lS30, kS31, fS31_3, fS31_4, kS32, lS32, kS33, lS33, kS34, fS34_3, fS34_4, kS35, lS35, kS36, lS36, kS37, kS38, fS38_0, kS39, lS39, kS40, fS40_0, kS41, lS41, kS42, fS42_0, kS43, lS43, kS44, fS44_0, kS45, lS45, kS46, fS46_0, kS47, lS47, kS48, fS48_0, kS49, lS49, kS50, fS50_0, kS51, lS51, kS52, fS52_0, kS53, lS53, kS54, fS54_0, kS55, lS55, kS56, fS56_5, fS56_6, fS56_7, fS56_8, fS56_9, kS57, lS57, kS58, lS58, kS59, lS59, kS60, lS60, kS61, lS61, kS62, fS62_5, fS62_6, fS62_7, fS62_8, fS62_9, kS63, lS63, kS64, lS64, kS65, lS65, kS66, lS66, kS67, lS67, kS68, fS68_2, fS68_3, fS68_4, fS68_5, fS68_6, fS68_8, fS68_18, fS68_19, fS68_21, fS68_22, fS68_23, fS68_24, fS68_25, fS68_26, fS68_27, fS68_28, fS68_30, fS68_32, fS68_33, fS68_34, fS68_35, kS69, lS69, kS70, lS70, kS71, lS71, kS72, lS72, kS73, lS73, kS74, lS74, kS75, lS75, kS76, lS76, kS77, lS77, kS78, lS78, kS79, lS79, kS80, lS80, kS81, lS81, kS82, lS82, kS83, lS83, kS84, lS84, kS85, lS85, kS86, lS86, kS87, lS87, kS88, lS88, kS89, lS89]
  | succ k ih =>
    intro i hi hi2 h e1 he
    have hi13 : i < 13 := by omega
    have e2 := ent_lt Hw (he i (by omega) hi13) wv hwv
    rw [u17_25]
    by_cases q : wOp g o (obs i) < wv
    · have e3 : (nI wv ≤ h.1 28 (13 * o + i)) = False := by rw [e2]; exact eq_false (fun z => z q)
      obtain ⟨h', a1, a2, a3, a4, a5⟩ := ih (i + 1) (by omega) (by omega) (sL (sI (sI h 28 (13 * o + i) (nI wv)) 29 (13 * o + i) sl) 30 (13 * o + i) y) (by rw [sL_1, sI_n (by omega), sI_n (by omega)]; exact e1) (fun l h1 h2 => by
        rw [sL_1, sI_n (by omega), sI_n (by omega), sI_n (by omega), sI_n (by omega), sL_n (by omega)]
        exact he l (by omega) h2)
      refine ⟨h', ?_, fun l hl => ?_, fun c q' hq => ?_, fun c q' hq => ?_, by rw [a5]; rfl⟩
      · simp (disch := first | assumption | omega) only [u17_0, u17_1, u17_4, u17_5, u17_8, u17_10, u17_11, u17_14, u17_15, u17_16, u17_19, u17_21, u17_23, u17_27, u17_29, u17_32, u17_33, u17_36, u17_37, u17_40, u17_42, u17_43, u17_44, u17_46, u17_49, u17_50, u17_53, u17_54, u17_57, u17_59, u17_60, u17_62, u17_63, u17_64, u17_67, u17_68, u17_71, u17_73, u17_74, u17_76, u17_77, u17_78, u17_81, u17_82, u17_85, u17_87, u17_88, u17_90, u17_91, u17_94, u17_97, ↓br_eq, ↓reduceIte, gd_true, ls_0, ls_1i, ls_1r, ls_1n, ls_1l, ls_2, ls2_eq, List.set_cons_zero, List.set_cons_succ, rf_s, cs_nil, cs_int, cs_ref, cs_long, Option.bind_some, Option.toList_some, Option.toList_none, List.nil_append, List.cons_append, Nat.reduceAdd, Nat.reduceSub, Nat.reduceMul, Nat.reduceLT, Nat.reduceLeDiff, Nat.reduceEqDiff, Int32.reduceAdd, Int32.reduceSub, Int32.reduceMul, Int32.reduceLT, Int32.reduceLE, Int32.reduceToInt, Int32.reduceToNatClampNeg, Int.reduceLE, Int.reduceLT, Int.reduceSub, Int.reduceToNat, and_self, true_and, and_true, or_true, true_or, false_or, or_false, false_and, and_false, not_false_eq_true, not_true_eq_false, eq_self, ↓li_m1, li_0, li_1, li_2, li_3, li_4, li_5, li_6, li_7, li_8, li_10, li_11, li_12, li_13, li_14, li_16, li_20, li_21, li_22, li_23, li_24, li_26, li_32, li_40, li_42, li_46, li_48, li_56, li_57, li_59, li_64, li_72, li_97, li_100, li_102, li_106, li_110, li_119, li_122, li_127, li_194, li_224, li_255, li_300, li_320, li_388, li_500, li_832, li_1000, ltT, ltF, leT, leF, eqT, eqF, eqmF, eqmF2, mlt, mle, mlt2, mle2, inT, cl, sbN, adm, mad, nI_add, pk_mul, dvN, rmN, rmN2, ofN, bo1, bo0, xle, xlt, xnl, xnt, xgt, xgt2, xge, xge0, xmo, dmN, kS0, lS0, kS1, lS1, kS2, lS2, kS3, lS3, kS4, lS4, kS5, lS5, kS6, lS6, kS7, lS7, kS8, fS8_0, fS8_1, fS8_2, fS8_3, fS8_4, fS8_5, fS8_6, fS8_7, fS8_8, fS8_9, kS9, lS9, fS9_0, fS9_1, fS9_2, fS9_3, fS9_4, fS9_5, fS9_6, fS9_7, kS10, fS10_0, fS10_1, kS11, fS11_0, kS12, lS12, kS13, fS13_5, fS13_6, fS13_7, fS13_8, fS13_9, kS14, lS14, kS15, lS15, kS16, lS16, kS17, lS17, kS18, lS18, kS19, fS19_5, fS19_6, fS19_7, fS19_8, fS19_9, kS20, lS20, kS21, lS21, kS22, lS22, kS23, lS23, kS24, lS24, kS25, lS25, fS25_0, fS25_1, kS26, kS27, fS27_3, fS27_4, fS27_5, kS28, lS28, kS29, lS29, kS30, lS30, kS31, fS31_3, fS31_4, kS32, lS32, kS33, lS33, kS34, fS34_3, fS34_4, kS35, lS35, kS36, lS36, kS37, kS38, fS38_0, kS39, lS39, kS40, fS40_0, kS41, lS41, kS42, fS42_0, kS43, lS43, kS44, fS44_0, kS45, lS45, kS46, fS46_0, kS47, lS47, kS48, fS48_0, kS49, lS49, kS50, fS50_0, kS51, lS51, kS52, fS52_0, kS53, lS53, kS54, fS54_0, kS55, lS55, kS56, fS56_5, fS56_6, fS56_7, fS56_8, fS56_9, kS57, lS57, kS58, lS58, kS59, lS59, kS60, lS60, kS61, lS61, kS62, fS62_5, fS62_6, fS62_7, fS62_8, fS62_9, kS63, lS63, kS64, lS64, kS65, lS65, kS66, lS66, kS67, lS67, kS68, fS68_2, fS68_3, fS68_4, fS68_5, fS68_6, fS68_8, fS68_18, fS68_19, fS68_21, fS68_22, fS68_23, fS68_24, fS68_25, fS68_26, fS68_27, fS68_28, fS68_30, fS68_32, fS68_33, fS68_34, fS68_35, kS69, lS69, kS70, lS70, kS71, lS71, kS72, lS72, kS73, lS73, kS74, lS74, kS75, lS75, kS76, lS76, kS77, lS77, kS78, lS78, kS79, lS79, kS80, lS80, kS81, lS81, kS82, lS82, kS83, lS83, kS84, lS84, kS85, lS85, kS86, lS86, kS87, lS87, kS88, lS88, kS89, lS89, e1, e3, sI_n, a1]
      · obtain ⟨b1, b2⟩ := a2 l hl
        by_cases z : l = i
        · subst z
          obtain ⟨c1, c2, c3⟩ := b2 (fun z => by omega)
          refine ⟨fun _ => ⟨?_, ?_, ?_⟩, fun z => absurd ⟨by omega, q⟩ z⟩
          · rw [c1, sL_1, sI_n (by omega), sI_e]
          · rw [c2, sL_1, sI_e]
          · rw [c3, sL_e]
        · refine ⟨fun z2 => b1 ⟨by omega, z2.2⟩, fun z2 => ?_⟩
          obtain ⟨c1, c2, c3⟩ := b2 (fun z3 => z2 ⟨by omega, z3.2⟩)
          refine ⟨?_, ?_, ?_⟩
          · rw [c1, sL_1, sI_n (by omega), sI_n (by omega)]
          · rw [c2, sL_1, sI_n (by omega), sI_n (by omega)]
          · rw [c3, sL_n (by omega)]; rfl
      · rw [a3 c q' hq, sL_1, sI_n (by omega), sI_n (by omega)]
      · rw [a4 c q' hq, sL_n (by omega)]; rfl
    · have e3 : (nI wv ≤ h.1 28 (13 * o + i)) = True := by rw [e2]; exact eq_true q
      refine ⟨h, ?_, fun l hl => ⟨fun z => ?_, fun _ => ⟨rfl, rfl, rfl⟩⟩, fun _ _ _ => rfl, fun _ _ _ => rfl, rfl⟩
      · simp (disch := first | assumption | omega) only [u17_0, u17_1, u17_4, u17_5, u17_8, u17_10, u17_11, u17_14, u17_15, u17_16, u17_19, u17_21, u17_23, u17_27, u17_29, u17_32, u17_33, u17_36, u17_37, u17_40, u17_42, u17_43, u17_44, u17_46, u17_49, u17_50, u17_53, u17_54, u17_57, u17_59, u17_60, u17_62, u17_63, u17_64, u17_67, u17_68, u17_71, u17_73, u17_74, u17_76, u17_77, u17_78, u17_81, u17_82, u17_85, u17_87, u17_88, u17_90, u17_91, u17_94, u17_97, ↓br_eq, ↓reduceIte, gd_true, ls_0, ls_1i, ls_1r, ls_1n, ls_1l, ls_2, ls2_eq, List.set_cons_zero, List.set_cons_succ, rf_s, cs_nil, cs_int, cs_ref, cs_long, Option.bind_some, Option.toList_some, Option.toList_none, List.nil_append, List.cons_append, Nat.reduceAdd, Nat.reduceSub, Nat.reduceMul, Nat.reduceLT, Nat.reduceLeDiff, Nat.reduceEqDiff, Int32.reduceAdd, Int32.reduceSub, Int32.reduceMul, Int32.reduceLT, Int32.reduceLE, Int32.reduceToInt, Int32.reduceToNatClampNeg, Int.reduceLE, Int.reduceLT, Int.reduceSub, Int.reduceToNat, and_self, true_and, and_true, or_true, true_or, false_or, or_false, false_and, and_false, not_false_eq_true, not_true_eq_false, eq_self, ↓li_m1, li_0, li_1, li_2, li_3, li_4, li_5, li_6, li_7, li_8, li_10, li_11, li_12, li_13, li_14, li_16, li_20, li_21, li_22, li_23, li_24, li_26, li_32, li_40, li_42, li_46, li_48, li_56, li_57, li_59, li_64, li_72, li_97, li_100, li_102, li_106, li_110, li_119, li_122, li_127, li_194, li_224, li_255, li_300, li_320, li_388, li_500, li_832, li_1000, ltT, ltF, leT, leF, eqT, eqF, eqmF, eqmF2, mlt, mle, mlt2, mle2, inT, cl, sbN, adm, mad, nI_add, pk_mul, dvN, rmN, rmN2, ofN, bo1, bo0, xle, xlt, xnl, xnt, xgt, xgt2, xge, xge0, xmo, dmN, kS0, lS0, kS1, lS1, kS2, lS2, kS3, lS3, kS4, lS4, kS5, lS5, kS6, lS6, kS7, lS7, kS8, fS8_0, fS8_1, fS8_2, fS8_3, fS8_4, fS8_5, fS8_6, fS8_7, fS8_8, fS8_9, kS9, lS9, fS9_0, fS9_1, fS9_2, fS9_3, fS9_4, fS9_5, fS9_6, fS9_7, kS10, fS10_0, fS10_1, kS11, fS11_0, kS12, lS12, kS13, fS13_5, fS13_6, fS13_7, fS13_8, fS13_9, kS14, lS14, kS15, lS15, kS16, lS16, kS17, lS17, kS18, lS18, kS19, fS19_5, fS19_6, fS19_7, fS19_8, fS19_9, kS20, lS20, kS21, lS21, kS22, lS22, kS23, lS23, kS24, lS24, kS25, lS25, fS25_0, fS25_1, kS26, kS27, fS27_3, fS27_4, fS27_5, kS28, lS28, kS29, lS29, kS30, lS30, kS31, fS31_3, fS31_4, kS32, lS32, kS33, lS33, kS34, fS34_3, fS34_4, kS35, lS35, kS36, lS36, kS37, kS38, fS38_0, kS39, lS39, kS40, fS40_0, kS41, lS41, kS42, fS42_0, kS43, lS43, kS44, fS44_0, kS45, lS45, kS46, fS46_0, kS47, lS47, kS48, fS48_0, kS49, lS49, kS50, fS50_0, kS51, lS51, kS52, fS52_0, kS53, lS53, kS54, fS54_0, kS55, lS55, kS56, fS56_5, fS56_6, fS56_7, fS56_8, fS56_9, kS57, lS57, kS58, lS58, kS59, lS59, kS60, lS60, kS61, lS61, kS62, fS62_5, fS62_6, fS62_7, fS62_8, fS62_9, kS63, lS63, kS64, lS64, kS65, lS65, kS66, lS66, kS67, lS67, kS68, fS68_2, fS68_3, fS68_4, fS68_5, fS68_6, fS68_8, fS68_18, fS68_19, fS68_21, fS68_22, fS68_23, fS68_24, fS68_25, fS68_26, fS68_27, fS68_28, fS68_30, fS68_32, fS68_33, fS68_34, fS68_35, kS69, lS69, kS70, lS70, kS71, lS71, kS72, lS72, kS73, lS73, kS74, lS74, kS75, lS75, kS76, lS76, kS77, lS77, kS78, lS78, kS79, lS79, kS80, lS80, kS81, lS81, kS82, lS82, kS83, lS83, kS84, lS84, kS85, lS85, kS86, lS86, kS87, lS87, kS88, lS88, kS89, lS89, e1, e3]
      · have := hmono i l z.1
        omega
set_option maxRecDepth 100000 in
set_option maxHeartbeats 400000 in
theorem ra_rp {g : Nat → Int32} (Hw : wfG g) {o : Nat} {r : List Nat} (hr : isRing g o r) : ra g (ins o r) (fun _ => false) = rp g o r := by
  rw [rp_border Hw.w7 Hw.h6 hr]
  unfold ra
  rw [Nat.add_comm]
  refine congr (congrArg _ (pct_cong (fun b _ => ?_))) (pct_cong (fun b _ => ?_))
  · rw [bS_0]; simp
  · rw [bE_0]; simp
/-- the class while it learns: rs are the rings met so far -/
def JB (g : Nat → Int32) (o : Nat) (h0 : aH) (rs : List (List Nat)) (h : aH) : Prop :=
  HG h g ∧ (∀ j, h.1 1 j = strF j) ∧ h.2.2 27 0 = some 19 ∧ h.1 27 1 = nI o ∧ h.1 27 2 = nI 12 ∧ h.1 27 7 = nI (13 * o) ∧
  (∀ l, l < 13 → ent g o (rs.foldl (bst g o l) none) (h.1 28 (13 * o + l)) (h.1 29 (13 * o + l)) (h.2.1 30 (13 * o + l))) ∧
  (∀ c q, c ≠ 27 → ¬ ((c = 28 ∨ c = 29) ∧ 13 * o ≤ q ∧ q < 13 * o + 13) → h.1 c q = h0.1 c q) ∧ (∀ c q, ¬ (c = 30 ∧ 13 * o ≤ q ∧ q < 13 * o + 13) → h.2.1 c q = h0.2.1 c q)
set_option maxRecDepth 100000 in
set_option maxHeartbeats 400000 in
theorem bst_case {g : Nat → Int32} {c l : Nat} (ob : Option (List Nat)) (r : List Nat) : bst g c l ob r = if rp g c r ≤ l ∧ wOp g c ob < wo g c r then some r else ob := by
  unfold bst
  have e : (∀ vs, ob = some vs → wo g c vs < wo g c r) ↔ wOp g c ob < wo g c r := by
    cases ob with
    | none => constructor
              · intro _; show (-1 : Int) < wo g c r; omega
              · intro _ vs z; cases z
    | some vs =>
      constructor
      · intro z; have := z vs rfl; show (wo g c vs : Int) < wo g c r; omega
      · intro z vs' z'; cases z'; have : (wo g c vs : Int) < wo g c r := z; omega
  by_cases hc : rp g c r ≤ l ∧ wOp g c ob < wo g c r
  · rw [if_pos hc, br_pos ⟨hc.1, e.mpr hc.2⟩]
  · rw [if_neg hc, br_neg (fun z => hc ⟨z.1, e.mp z.2⟩)]
set_option maxRecDepth 100000 in
set_option maxHeartbeats 400000 in
theorem meetB {g : Nat → Int32} {o : Nat} {h0 : aH} (ho : inG g o) (L : Nat) : ∀ rs h r x b y d, JB g o h0 rs h → isRing g o r → r.length ≤ 12 → clr g o r → (∀ i, i < 64 → lb x i = ins o r i) → (∀ i, i < 64 → lb b i = pB (i ∈ pcs o r)) → (∀ i, i < 64 → lb y i = pkW r i) → ∃ h', call (d + 3) 17 [.ref 27, .long x, .long b, .long y, .int (nI r.length)] (S0 L) h = some (none, S0 L, h') ∧ JB g o h0 (rs ++ [r]) h' := by
  intro rs h r x b y d J hr hl hc hx hb hy
  obtain ⟨G, hC, j1, j2, j3, j4, j5, j6, j7⟩ := J
  have o56 := inG56 G.1.w7 G.1.h6 ho
  have wl := wth_le G.1 (ins o r)
  have a1 := k36w G hx L (d + 1)
  have a2 := k35r G hx (y := 0) (o := fun _ => false) (fun i _ => lb_0 i) L (d + 1)
  rw [ra_rp G.1 hr] at a2
  have rl := rp_len g r o
  obtain ⟨h', b1, b2, b3, b4, b5⟩ := z17 (wv := wo g o r) G.1 o56 (show wth g (ins o r) 64 < 1000 by omega) (fun l => rs.foldl (bst g o l) none) (fun p q hpq => wOp_mono hpq rs none none (Int.le_refl _)) x b y (nI (rp g o r)) (nI r.length) L (d + 3) (13 - rp g o r) (rp g o r) (by omega) (by omega) h j4 (fun l h1 h2 => j5 l h2)
  have ewo : wo g o r = wth g (ins o r) 64 := rfl
  rw [ewo] at b1
  refine ⟨h', ?_, G.of (fun c k p1 p2 => ⟨b3 c k (by omega), b4 c k (by omega)⟩), fun j => by rw [b3 1 j (by omega)]; exact hC j, by rw [b5]; exact j1, by rw [b3 27 1 (by omega)]; exact j2, by rw [b3 27 2 (by omega)]; exact j3, by rw [b3 27 7 (by omega)]; exact j4, fun l hl' => ?_, fun c q p1 p2 => by rw [b3 c q p2]; exact j6 c q p1 p2, fun c q p => by rw [b4 c q p]; exact j7 c q p⟩
  · simp (disch := first | assumption | omega) only [c17, u17_0, u17_1, u17_4, u17_5, u17_8, u17_10, u17_11, u17_14, u17_15, u17_16, u17_19, u17_21, u17_23, u17_27, u17_29, u17_32, u17_33, u17_36, u17_37, u17_40, u17_42, u17_43, u17_44, u17_46, u17_49, u17_50, u17_53, u17_54, u17_57, u17_59, u17_60, u17_62, u17_63, u17_64, u17_67, u17_68, u17_71, u17_73, u17_74, u17_76, u17_77, u17_78, u17_81, u17_82, u17_85, u17_87, u17_88, u17_90, u17_91, u17_94, u17_97, ↓br_eq, ↓reduceIte, gd_true, ls_0, ls_1i, ls_1r, ls_1n, ls_1l, ls_2, ls2_eq, List.set_cons_zero, List.set_cons_succ, rf_s, cs_nil, cs_int, cs_ref, cs_long, Option.bind_some, Option.toList_some, Option.toList_none, List.nil_append, List.cons_append, Nat.reduceAdd, Nat.reduceSub, Nat.reduceMul, Nat.reduceLT, Nat.reduceLeDiff, Nat.reduceEqDiff, Int32.reduceAdd, Int32.reduceSub, Int32.reduceMul, Int32.reduceLT, Int32.reduceLE, Int32.reduceToInt, Int32.reduceToNatClampNeg, Int.reduceLE, Int.reduceLT, Int.reduceSub, Int.reduceToNat, and_self, true_and, and_true, or_true, true_or, false_or, or_false, false_and, and_false, not_false_eq_true, not_true_eq_false, eq_self, ↓li_m1, li_0, li_1, li_2, li_3, li_4, li_5, li_6, li_7, li_8, li_10, li_11, li_12, li_13, li_14, li_16, li_20, li_21, li_22, li_23, li_24, li_26, li_32, li_40, li_42, li_46, li_48, li_56, li_57, li_59, li_64, li_72, li_97, li_100, li_102, li_106, li_110, li_119, li_122, li_127, li_194, li_224, li_255, li_300, li_320, li_388, li_500, li_832, li_1000, ltT, ltF, leT, leF, eqT, eqF, eqmF, eqmF2, mlt, mle, mlt2, mle2, inT, cl, sbN, adm, mad, nI_add, pk_mul, dvN, rmN, rmN2, ofN, bo1, bo0, xle, xlt, xnl, xnt, xgt, xgt2, xge, xge0, xmo, dmN, kS0, lS0, kS1, lS1, kS2, lS2, kS3, lS3, kS4, lS4, kS5, lS5, kS6, lS6, kS7, lS7, kS8, fS8_0, fS8_1, fS8_2, fS8_3, fS8_4, fS8_5, fS8_6, fS8_7, fS8_8, fS8_9, kS9, lS9, fS9_0, fS9_1, fS9_2, fS9_3, fS9_4, fS9_5, fS9_6, fS9_7, kS10, fS10_0, fS10_1, kS11, fS11_0, kS12, lS12, kS13, fS13_5, fS13_6, fS13_7, fS13_8, fS13_9, kS14, lS14, kS15, lS15, kS16, lS16, kS17, lS17, kS18, lS18, kS19, fS19_5, fS19_6, fS19_7, fS19_8, fS19_9, kS20, lS20, kS21, lS21, kS22, lS22, kS23, lS23, kS24, lS24, kS25, lS25, fS25_0, fS25_1, kS26, kS27, fS27_3, fS27_4, fS27_5, kS28, lS28, kS29, lS29, kS30, lS30, kS31, fS31_3, fS31_4, kS32, lS32, kS33, lS33, kS34, fS34_3, fS34_4, kS35, lS35, kS36, lS36, kS37, kS38, fS38_0, kS39, lS39, kS40, fS40_0, kS41, lS41, kS42, fS42_0, kS43, lS43, kS44, fS44_0, kS45, lS45, kS46, fS46_0, kS47, lS47, kS48, fS48_0, kS49, lS49, kS50, fS50_0, kS51, lS51, kS52, fS52_0, kS53, lS53, kS54, fS54_0, kS55, lS55, kS56, fS56_5, fS56_6, fS56_7, fS56_8, fS56_9, kS57, lS57, kS58, lS58, kS59, lS59, kS60, lS60, kS61, lS61, kS62, fS62_5, fS62_6, fS62_7, fS62_8, fS62_9, kS63, lS63, kS64, lS64, kS65, lS65, kS66, lS66, kS67, lS67, kS68, fS68_2, fS68_3, fS68_4, fS68_5, fS68_6, fS68_8, fS68_18, fS68_19, fS68_21, fS68_22, fS68_23, fS68_24, fS68_25, fS68_26, fS68_27, fS68_28, fS68_30, fS68_32, fS68_33, fS68_34, fS68_35, kS69, lS69, kS70, lS70, kS71, lS71, kS72, lS72, kS73, lS73, kS74, lS74, kS75, lS75, kS76, lS76, kS77, lS77, kS78, lS78, kS79, lS79, kS80, lS80, kS81, lS81, kS82, lS82, kS83, lS83, kS84, lS84, kS85, lS85, kS86, lS86, kS87, lS87, kS88, lS88, kS89, lS89, j1, a1, a2, b1]
  · rw [List.foldl_append, List.foldl_cons, List.foldl_nil, bst_case]
    obtain ⟨d1, d2⟩ := b2 l hl'
    by_cases q : rp g o r ≤ l ∧ wOp g o (rs.foldl (bst g o l) none) < wo g o r
    · rw [if_pos q]
      obtain ⟨f1, f2, f3⟩ := d1 q
      exact ⟨f1, f2, fun i hi => by rw [f3]; exact hy i hi⟩
    · rw [if_neg q]
      obtain ⟨f1, f2, f3⟩ := d2 q
      rw [f1, f2, f3]
      exact j5 l hl'
set_option maxRecDepth 100000 in
set_option maxHeartbeats 400000 in
theorem z14 {o : Nat} (ho : o < 56) (v1 v2 : Value) (L d : Nat) : ∀ (n k : Nat), k + n = 13 → ∀ h : aH, h.1 27 7 = nI (13 * o) → ∃ h', ev d 14 22 [.ref 27, .ref 19, .int (nI o), .int (nI k)] [] (S0 L) h = ev d 14 59 [.ref 27, .ref 19, .int (nI o), .int (nI 13)] [] (S0 L) h' ∧ (∀ l, k ≤ l → l < 13 → h'.1 28 (13 * o + l) = nNo ∧ h'.1 29 (13 * o + l) = nI 0) ∧ (∀ c q, ¬ ((c = 28 ∨ c = 29) ∧ 13 * o + k ≤ q ∧ q < 13 * o + 13) → h'.1 c q = h.1 c q) ∧ h'.2 = h.2 := by
  intro n
  induction n with
  | zero =>
    intro k hk h e1
    refine ⟨h, ?_, fun l h1 h2 => by omega, fun _ _ _ => rfl, rfl⟩
    rw [u14_22]
    simp (disch := first | assumption | omega) only [u14_0, u14_1, u14_4, u14_5, u14_8, u14_11, u14_12, u14_13, u14_14, u14_16, u14_17, u14_20, u14_21, u14_23, u14_25, u14_28, u14_29, u14_32, u14_33, u14_36, u14_37, u14_38, u14_40, u14_41, u14_42, u14_45, u14_46, u14_49, u14_50, u14_51, u14_52, u14_53, u14_56, u14_60, u14_61, u14_62, u14_64, u14_67, u14_68, u14_68i, u14_69, u14_72, u14_73, u14_74, u14_75, u14_76, u14_79, ↓br_eq, ↓reduceIte, gd_true, ls_0, ls_1i, ls_1r, ls_1n, ls_1l, ls_2, ls2_eq, List.set_cons_zero, List.set_cons_succ, rf_s, cs_nil, cs_int, cs_ref, cs_long, Option.bind_some, Option.toList_some, Option.toList_none, List.nil_append, List.cons_append, Nat.reduceAdd, Nat.reduceSub, Nat.reduceMul, Nat.reduceLT, Nat.reduceLeDiff, Nat.reduceEqDiff, Int32.reduceAdd, Int32.reduceSub, Int32.reduceMul, Int32.reduceLT, Int32.reduceLE, Int32.reduceToInt, Int32.reduceToNatClampNeg, Int.reduceLE, Int.reduceLT, Int.reduceSub, Int.reduceToNat, and_self, true_and, and_true, or_true, true_or, false_or, or_false, false_and, and_false, not_false_eq_true, not_true_eq_false, eq_self, ↓li_m1, li_0, li_1, li_2, li_3, li_4, li_5, li_6, li_7, li_8, li_10, li_11, li_12, li_13, li_14, li_16, li_20, li_21, li_22, li_23, li_24, li_26, li_32, li_40, li_42, li_46, li_48, li_56, li_57, li_59, li_64, li_72, li_97, li_100, li_102, li_106, li_110, li_119, li_122, li_127, li_194, li_224, li_255, li_300, li_320, li_388, li_500, li_832, li_1000, ltT, ltF, leT, leF, eqT, eqF, eqmF, eqmF2, mlt, mle, mlt2, mle2, inT, cl, sbN, adm, mad, nI_add, pk_mul, dvN, rmN, rmN2, ofN, bo1, bo0, xle, xlt, xnl, xnt, xgt, xgt2, xge, xge0, xmo, dmN, kS0, lS0, kS1, lS1, kS2, lS2, kS3, lS3, kS4, lS4, kS5, lS5, kS6, lS6, kS7, lS7, kS8, fS8_0, fS8_1, fS8_2, fS8_3, fS8_4, fS8_5, fS8_6, fS8_7, fS8_8, fS8_9, kS9, lS9, fS9_0, fS9_1, fS9_2, fS9_3, fS9_4, fS9_5, fS9_6, fS9_7, kS10, fS10_0, fS10_1, kS11, fS11_0, kS12, lS12, kS13, fS13_5, fS13_6, fS13_7, fS13_8, fS13_9, kS14, lS14, kS15, lS15, kS16, lS16, kS17, lS17, kS18, lS18, kS19, fS19_5, fS19_6, fS19_7, fS19_8, fS19_9, kS20, lS20, kS21, lS21, kS22, lS22, kS23, lS23, kS24, lS24, kS25, lS25, fS25_0, fS25_1, kS26, kS27, fS27_3, fS27_4, fS27_5, kS28, lS28, kS29, lS29, kS30, lS30, kS31, fS31_3, fS31_4, kS32, lS32, kS33, lS33, kS34, fS34_3, fS34_4, kS35, lS35, kS36, lS36, kS37, kS38, fS38_0, kS39, lS39, kS40, fS40_0, kS41, lS41, kS42, fS42_0, kS43, lS43, kS44, fS44_0, kS45, lS45, kS46, fS46_0, kS47, lS47, kS48, fS48_0, kS49, lS49, kS50, fS50_0, kS51, lS51, kS52, fS52_0, kS53, lS53, kS54, fS54_0, kS55, lS55, kS56, fS56_5, fS56_6, fS56_7, fS56_8, fS56_9, kS57, lS57, kS58, lS58, kS59, lS59, kS60, lS60, kS61, lS61, kS62, fS62_5, fS62_6, fS62_7, fS62_8, fS62_9, kS63, lS63, kS64, lS64, kS65, lS65, kS66, lS66, kS67, lS67, kS68, fS68_2, fS68_3, fS68_4, fS68_5, fS68_6, fS68_8, fS68_18, fS68_19, fS68_21, fS68_22, fS68_23, fS68_24, fS68_25, fS68_26, fS68_27, fS68_28, fS68_30, fS68_32, fS68_33, fS68_34, fS68_35, kS69, lS69, kS70, lS70, kS71, lS71, kS72, lS72, kS73, lS73, kS74, lS74, kS75, lS75, kS76, lS76, kS77, lS77, kS78, lS78, kS79, lS79, kS80, lS80, kS81, lS81, kS82, lS82, kS83, lS83, kS84, lS84, kS85, lS85, kS86, lS86, kS87, lS87, kS88, lS88, kS89, lS89]
    rw [show k = 13 by omega]
  | succ n ih =>
    intro k hk h e1
    obtain ⟨h', a1, a2, a3, a4⟩ := ih (k + 1) (by omega) (sI (sI h 28 (13 * o + k) nNo) 29 (13 * o + k) (nI 0)) (by rw [sI_n (by omega), sI_n (by omega)]; exact e1)
    refine ⟨h', ?_, fun l h1 h2 => ?_, fun c q hq => ?_, by rw [a4]; rfl⟩
    · rw [u14_22]
      simp (disch := first | assumption | omega) only [u14_0, u14_1, u14_4, u14_5, u14_8, u14_11, u14_12, u14_13, u14_14, u14_16, u14_17, u14_20, u14_21, u14_23, u14_25, u14_28, u14_29, u14_32, u14_33, u14_36, u14_37, u14_38, u14_40, u14_41, u14_42, u14_45, u14_46, u14_49, u14_50, u14_51, u14_52, u14_53, u14_56, u14_60, u14_61, u14_62, u14_64, u14_67, u14_68, u14_68i, u14_69, u14_72, u14_73, u14_74, u14_75, u14_76, u14_79, ↓br_eq, ↓reduceIte, gd_true, ls_0, ls_1i, ls_1r, ls_1n, ls_1l, ls_2, ls2_eq, List.set_cons_zero, List.set_cons_succ, rf_s, cs_nil, cs_int, cs_ref, cs_long, Option.bind_some, Option.toList_some, Option.toList_none, List.nil_append, List.cons_append, Nat.reduceAdd, Nat.reduceSub, Nat.reduceMul, Nat.reduceLT, Nat.reduceLeDiff, Nat.reduceEqDiff, Int32.reduceAdd, Int32.reduceSub, Int32.reduceMul, Int32.reduceLT, Int32.reduceLE, Int32.reduceToInt, Int32.reduceToNatClampNeg, Int.reduceLE, Int.reduceLT, Int.reduceSub, Int.reduceToNat, and_self, true_and, and_true, or_true, true_or, false_or, or_false, false_and, and_false, not_false_eq_true, not_true_eq_false, eq_self, ↓li_m1, li_0, li_1, li_2, li_3, li_4, li_5, li_6, li_7, li_8, li_10, li_11, li_12, li_13, li_14, li_16, li_20, li_21, li_22, li_23, li_24, li_26, li_32, li_40, li_42, li_46, li_48, li_56, li_57, li_59, li_64, li_72, li_97, li_100, li_102, li_106, li_110, li_119, li_122, li_127, li_194, li_224, li_255, li_300, li_320, li_388, li_500, li_832, li_1000, ltT, ltF, leT, leF, eqT, eqF, eqmF, eqmF2, mlt, mle, mlt2, mle2, inT, cl, sbN, adm, mad, nI_add, pk_mul, dvN, rmN, rmN2, ofN, bo1, bo0, xle, xlt, xnl, xnt, xgt, xgt2, xge, xge0, xmo, dmN, kS0, lS0, kS1, lS1, kS2, lS2, kS3, lS3, kS4, lS4, kS5, lS5, kS6, lS6, kS7, lS7, kS8, fS8_0, fS8_1, fS8_2, fS8_3, fS8_4, fS8_5, fS8_6, fS8_7, fS8_8, fS8_9, kS9, lS9, fS9_0, fS9_1, fS9_2, fS9_3, fS9_4, fS9_5, fS9_6, fS9_7, kS10, fS10_0, fS10_1, kS11, fS11_0, kS12, lS12, kS13, fS13_5, fS13_6, fS13_7, fS13_8, fS13_9, kS14, lS14, kS15, lS15, kS16, lS16, kS17, lS17, kS18, lS18, kS19, fS19_5, fS19_6, fS19_7, fS19_8, fS19_9, kS20, lS20, kS21, lS21, kS22, lS22, kS23, lS23, kS24, lS24, kS25, lS25, fS25_0, fS25_1, kS26, kS27, fS27_3, fS27_4, fS27_5, kS28, lS28, kS29, lS29, kS30, lS30, kS31, fS31_3, fS31_4, kS32, lS32, kS33, lS33, kS34, fS34_3, fS34_4, kS35, lS35, kS36, lS36, kS37, kS38, fS38_0, kS39, lS39, kS40, fS40_0, kS41, lS41, kS42, fS42_0, kS43, lS43, kS44, fS44_0, kS45, lS45, kS46, fS46_0, kS47, lS47, kS48, fS48_0, kS49, lS49, kS50, fS50_0, kS51, lS51, kS52, fS52_0, kS53, lS53, kS54, fS54_0, kS55, lS55, kS56, fS56_5, fS56_6, fS56_7, fS56_8, fS56_9, kS57, lS57, kS58, lS58, kS59, lS59, kS60, lS60, kS61, lS61, kS62, fS62_5, fS62_6, fS62_7, fS62_8, fS62_9, kS63, lS63, kS64, lS64, kS65, lS65, kS66, lS66, kS67, lS67, kS68, fS68_2, fS68_3, fS68_4, fS68_5, fS68_6, fS68_8, fS68_18, fS68_19, fS68_21, fS68_22, fS68_23, fS68_24, fS68_25, fS68_26, fS68_27, fS68_28, fS68_30, fS68_32, fS68_33, fS68_34, fS68_35, kS69, lS69, kS70, lS70, kS71, lS71, kS72, lS72, kS73, lS73, kS74, lS74, kS75, lS75, kS76, lS76, kS77, lS77, kS78, lS78, kS79, lS79, kS80, lS80, kS81, lS81, kS82, lS82, kS83, lS83, kS84, lS84, kS85, lS85, kS86, lS86, kS87, lS87, kS88, lS88, kS89, lS89, e1, li_no, sI_n, a1]
    · by_cases z : l = k
      · subst z
        rw [a3 28 _ (by omega), a3 29 _ (by omega), sI_n (by omega), sI_e, sI_e]
        exact ⟨rfl, rfl⟩
      · exact a2 l (by omega) h2
    · rw [a3 c q (by omega), sI_n (by omega), sI_n (by omega)]
set_option maxRecDepth 100000 in
set_option maxHeartbeats 400000 in
theorem wk27 (L : Nat) : wk3 L 27 17 := Or.inl ⟨rfl, rfl⟩
/-- what is learnt -/
def LRN (h h' : aH) : Prop := (∀ c k, c ≠ 27 → c ≠ 28 → c ≠ 29 → h'.1 c k = h.1 c k) ∧ (∀ c k, c ≠ 27 → c ≠ 30 → h'.2.1 c k = h.2.1 c k)
set_option maxRecDepth 100000 in
set_option maxHeartbeats 400000 in
theorem LRN.refl (h : aH) : LRN h h := ⟨fun _ _ _ _ _ => rfl, fun _ _ _ _ => rfl⟩
set_option maxRecDepth 100000 in
set_option maxHeartbeats 400000 in
theorem LRN.trans {a b c : aH} (h1 : LRN a b) (h2 : LRN b c) : LRN a c := ⟨fun x k p q r => (h2.1 x k p q r).trans (h1.1 x k p q r), fun x k p q => (h2.2 x k p q).trans (h1.2 x k p q)⟩
def IBt (g : Nat → Int32) (h : aH) : Prop := ∀ c, c < 64 → lb (h.2.1 27 6) c = true → tbl h g c
set_option maxRecDepth 100000 in
set_option maxHeartbeats 400000 in
theorem k14x {g : Nat → Int32} {o : Nat} {h : aH} (G : HG h g) (hC : ∀ j, h.1 1 j = strF j) (ho : inG g o) (hB : IBt g h) (L d : Nat) : ∃ h', call (d + 18) 14 [.ref 27, .ref 19, .int (nI o)] (S0 L) h = some (none, S0 L, h') ∧ LRN h h' ∧ IBt g h' ∧ tbl h' g o ∧ ∀ c, tbl h g c → tbl h' g c := by
  have o56 := inG56 G.1.w7 G.1.h6 ho
  cases hk : lb (h.2.1 27 6) o with
  | true =>
    refine ⟨h, ?_, LRN.refl h, hB, hB o (by omega) hk, fun c hc => hc⟩
    simp (disch := first | assumption | omega) only [c14, u14_0, u14_1, u14_4, u14_5, u14_8, u14_11, u14_12, u14_13, u14_14, u14_16, u14_17, u14_20, u14_21, u14_22, u14_23, u14_25, u14_28, u14_29, u14_32, u14_33, u14_36, u14_37, u14_38, u14_40, u14_41, u14_42, u14_45, u14_46, u14_49, u14_50, u14_51, u14_52, u14_53, u14_56, u14_59, u14_60, u14_61, u14_62, u14_64, u14_67, u14_68, u14_68i, u14_69, u14_72, u14_73, u14_74, u14_75, u14_76, u14_79, ↓br_eq, ↓reduceIte, gd_true, ls_0, ls_1i, ls_1r, ls_1n, ls_1l, ls_2, ls2_eq, List.set_cons_zero, List.set_cons_succ, rf_s, cs_nil, cs_int, cs_ref, cs_long, Option.bind_some, Option.toList_some, Option.toList_none, List.nil_append, List.cons_append, Nat.reduceAdd, Nat.reduceSub, Nat.reduceMul, Nat.reduceLT, Nat.reduceLeDiff, Nat.reduceEqDiff, Int32.reduceAdd, Int32.reduceSub, Int32.reduceMul, Int32.reduceLT, Int32.reduceLE, Int32.reduceToInt, Int32.reduceToNatClampNeg, Int.reduceLE, Int.reduceLT, Int.reduceSub, Int.reduceToNat, and_self, true_and, and_true, or_true, true_or, false_or, or_false, false_and, and_false, not_false_eq_true, not_true_eq_false, eq_self, ↓li_m1, li_0, li_1, li_2, li_3, li_4, li_5, li_6, li_7, li_8, li_10, li_11, li_12, li_13, li_14, li_16, li_20, li_21, li_22, li_23, li_24, li_26, li_32, li_40, li_42, li_46, li_48, li_56, li_57, li_59, li_64, li_72, li_97, li_100, li_102, li_106, li_110, li_119, li_122, li_127, li_194, li_224, li_255, li_300, li_320, li_388, li_500, li_832, li_1000, ltT, ltF, leT, leF, eqT, eqF, eqmF, eqmF2, mlt, mle, mlt2, mle2, inT, cl, sbN, adm, mad, nI_add, pk_mul, dvN, rmN, rmN2, ofN, bo1, bo0, xle, xlt, xnl, xnt, xgt, xgt2, xge, xge0, xmo, dmN, kS0, lS0, kS1, lS1, kS2, lS2, kS3, lS3, kS4, lS4, kS5, lS5, kS6, lS6, kS7, lS7, kS8, fS8_0, fS8_1, fS8_2, fS8_3, fS8_4, fS8_5, fS8_6, fS8_7, fS8_8, fS8_9, kS9, lS9, fS9_0, fS9_1, fS9_2, fS9_3, fS9_4, fS9_5, fS9_6, fS9_7, kS10, fS10_0, fS10_1, kS11, fS11_0, kS12, lS12, kS13, fS13_5, fS13_6, fS13_7, fS13_8, fS13_9, kS14, lS14, kS15, lS15, kS16, lS16, kS17, lS17, kS18, lS18, kS19, fS19_5, fS19_6, fS19_7, fS19_8, fS19_9, kS20, lS20, kS21, lS21, kS22, lS22, kS23, lS23, kS24, lS24, kS25, lS25, fS25_0, fS25_1, kS26, kS27, fS27_3, fS27_4, fS27_5, kS28, lS28, kS29, lS29, kS30, lS30, kS31, fS31_3, fS31_4, kS32, lS32, kS33, lS33, kS34, fS34_3, fS34_4, kS35, lS35, kS36, lS36, kS37, kS38, fS38_0, kS39, lS39, kS40, fS40_0, kS41, lS41, kS42, fS42_0, kS43, lS43, kS44, fS44_0, kS45, lS45, kS46, fS46_0, kS47, lS47, kS48, fS48_0, kS49, lS49, kS50, fS50_0, kS51, lS51, kS52, fS52_0, kS53, lS53, kS54, fS54_0, kS55, lS55, kS56, fS56_5, fS56_6, fS56_7, fS56_8, fS56_9, kS57, lS57, kS58, lS58, kS59, lS59, kS60, lS60, kS61, lS61, kS62, fS62_5, fS62_6, fS62_7, fS62_8, fS62_9, kS63, lS63, kS64, lS64, kS65, lS65, kS66, lS66, kS67, lS67, kS68, fS68_2, fS68_3, fS68_4, fS68_5, fS68_6, fS68_8, fS68_18, fS68_19, fS68_21, fS68_22, fS68_23, fS68_24, fS68_25, fS68_26, fS68_27, fS68_28, fS68_30, fS68_32, fS68_33, fS68_34, fS68_35, kS69, lS69, kS70, lS70, kS71, lS71, kS72, lS72, kS73, lS73, kS74, lS74, kS75, lS75, kS76, lS76, kS77, lS77, kS78, lS78, kS79, lS79, kS80, lS80, kS81, lS81, kS82, lS82, kS83, lS83, kS84, lS84, kS85, lS85, kS86, lS86, kS87, lS87, kS88, lS88, kS89, lS89, k122_t]
  | false =>
    obtain ⟨h1, a1, a2, a3, a4⟩ := z14 o56 .null .null L (d + 18) 13 0 (by omega) (sI h 27 7 (nI (13 * o))) (sI_e ..)
    have J0 : JB g o h [] (sI (sI (sR h1 27 0 (some 19)) 27 1 (nI o)) 27 2 (nI 12)) := by
      refine ⟨G.of (fun c k p1 p2 => ⟨?_, ?_⟩), fun j => ?_, ?_, ?_, sI_e .., ?_, fun l hl => ⟨?_, ?_⟩, fun c q p1 p2 => ?_, fun c q p => ?_⟩
      · rw [sI_n (by omega), sI_n (by omega), sR_1, a3 c k (by omega), sI_n (by omega)]
      · rw [sI_2, sI_2, sR_21, a4]; rfl
      · rw [sI_n (by omega), sI_n (by omega), sR_1, a3 1 j (by omega), sI_n (by omega)]; exact hC j
      · show (sR h1 27 0 (some 19)).2.2 27 0 = some 19
        rw [sR_22, if_pos ⟨rfl, rfl⟩]
      · rw [sI_n (by omega), sI_e]
      · rw [sI_n (by omega), sI_n (by omega), sR_1, a3 27 7 (by omega), sI_e]
      · rw [sI_n (by omega), sI_n (by omega), sR_1]; exact (a2 l (by omega) hl).1
      · rw [sI_n (by omega), sI_n (by omega), sR_1]; exact (a2 l (by omega) hl).2
      · rw [sI_n (by omega), sI_n (by omega), sR_1, a3 c q (by omega), sI_n (by omega)]
      · rw [sI_2, sI_2, sR_21, a4]; rfl
    obtain ⟨h2, b1, b2⟩ := goOn (wk27 L) (Nat.le_refl 12) ho (fun rs h J => ⟨J.1, J.2.1, J.2.2.1, J.2.2.2.1, J.2.2.2.2.1⟩) (meetB (h0 := h) ho L) d 12 o [o] [] (1 <<< ((nI o).toInt64 &&& 63)) 0 0 [] _ rfl rfl trivial List.nodup_nil (fun z => by cases z) (fun x => by
      rw [List.mem_singleton]
      exact ⟨Or.inl, fun z => z.elim id (fun y => by cases y)⟩) (fun i hi => by
      rw [lb_one_shl (by omega) hi, ← pB_dec]; congr 1; apply propext; rw [List.mem_singleton]) (fun i hi => by rw [lb_0]; rfl) (fun i hi => by
      rw [lb_0]; unfold pkW; rw [List.getD_eq_getElem?_getD]; show false = (0 : Nat).testBit _; rw [Nat.zero_testBit]) J0
    rw [List.nil_append] at b2
    obtain ⟨G2, -, -, -, -, -, j5, j6, j7⟩ := b2
    have hT : tbl (sL h2 27 6 (h2.2.1 27 6 ||| (1 <<< ((nI o).toInt64 &&& 63)))) g o := tbl_iff.mpr (fun l hl => by
      rw [sL_1, sL_n (by omega)]
      exact j5 l (by omega))
    have hO : ∀ c, tbl h g c → tbl (sL h2 27 6 (h2.2.1 27 6 ||| (1 <<< ((nI o).toInt64 &&& 63)))) g c := fun c hc => by
      by_cases q : c = o
      · rw [q]; exact hT
      · have := tbl_iff.mp hc
        refine tbl_iff.mpr (fun l hl2 => ?_)
        rw [sL_1, sL_n (by omega), j6 28 _ (by omega) (by omega), j6 29 _ (by omega) (by omega), j7 30 _ (by omega)]
        exact this l hl2
    refine ⟨sL h2 27 6 (h2.2.1 27 6 ||| (1 <<< ((nI o).toInt64 &&& 63))), ?_, ⟨fun c k p1 p2 p3 => by rw [sL_1]; exact j6 c k p1 (by omega), fun c k p1 p2 => by rw [sL_n (by omega)]; exact j7 c k (by omega)⟩, fun c hc hl => ?_, hT, hO⟩
    · have hk3 := (wk27 L).k
      have b1' : call (d + 16) 79 [.ref 27, .int (nI o), .int (nI 0), .long (1 <<< ((nI o).toInt64 &&& 63)), .long 0, .long 0] (S0 L) (sI (sI (sR h1 27 0 (some 19)) 27 1 (nI o)) 27 2 (nI 12)) = some (none, S0 L, h2) := b1
      have hmc : o * 13 = 13 * o := Nat.mul_comm o 13
      simp (disch := first | assumption | omega) only [c14, u14_0, u14_1, u14_4, u14_5, u14_8, u14_11, u14_12, u14_13, u14_14, u14_16, u14_17, u14_20, u14_21, u14_23, u14_25, u14_28, u14_29, u14_32, u14_33, u14_36, u14_37, u14_38, u14_40, u14_41, u14_42, u14_45, u14_46, u14_49, u14_50, u14_51, u14_52, u14_53, u14_56, u14_59, u14_60, u14_61, u14_62, u14_64, u14_67, u14_68, u14_68i, u14_69, u14_72, u14_73, u14_74, u14_75, u14_76, u14_79, ↓br_eq, ↓reduceIte, gd_true, ls_0, ls_1i, ls_1r, ls_1n, ls_1l, ls_2, ls2_eq, List.set_cons_zero, List.set_cons_succ, rf_s, cs_nil, cs_int, cs_ref, cs_long, Option.bind_some, Option.toList_some, Option.toList_none, List.nil_append, List.cons_append, Nat.reduceAdd, Nat.reduceSub, Nat.reduceMul, Nat.reduceLT, Nat.reduceLeDiff, Nat.reduceEqDiff, Int32.reduceAdd, Int32.reduceSub, Int32.reduceMul, Int32.reduceLT, Int32.reduceLE, Int32.reduceToInt, Int32.reduceToNatClampNeg, Int.reduceLE, Int.reduceLT, Int.reduceSub, Int.reduceToNat, and_self, true_and, and_true, or_true, true_or, false_or, or_false, false_and, and_false, not_false_eq_true, not_true_eq_false, eq_self, ↓li_m1, li_0, li_1, li_2, li_3, li_4, li_5, li_6, li_7, li_8, li_10, li_11, li_12, li_13, li_14, li_16, li_20, li_21, li_22, li_23, li_24, li_26, li_32, li_40, li_42, li_46, li_48, li_56, li_57, li_59, li_64, li_72, li_97, li_100, li_102, li_106, li_110, li_119, li_122, li_127, li_194, li_224, li_255, li_300, li_320, li_388, li_500, li_832, li_1000, ltT, ltF, leT, leF, eqT, eqF, eqmF, eqmF2, mlt, mle, mlt2, mle2, inT, cl, sbN, adm, mad, nI_add, pk_mul, dvN, rmN, rmN2, ofN, bo1, bo0, xle, xlt, xnl, xnt, xgt, xgt2, xge, xge0, xmo, dmN, kS0, lS0, kS1, lS1, kS2, lS2, kS3, lS3, kS4, lS4, kS5, lS5, kS6, lS6, kS7, lS7, kS8, fS8_0, fS8_1, fS8_2, fS8_3, fS8_4, fS8_5, fS8_6, fS8_7, fS8_8, fS8_9, kS9, lS9, fS9_0, fS9_1, fS9_2, fS9_3, fS9_4, fS9_5, fS9_6, fS9_7, kS10, fS10_0, fS10_1, kS11, fS11_0, kS12, lS12, kS13, fS13_5, fS13_6, fS13_7, fS13_8, fS13_9, kS14, lS14, kS15, lS15, kS16, lS16, kS17, lS17, kS18, lS18, kS19, fS19_5, fS19_6, fS19_7, fS19_8, fS19_9, kS20, lS20, kS21, lS21, kS22, lS22, kS23, lS23, kS24, lS24, kS25, lS25, fS25_0, fS25_1, kS26, kS27, fS27_3, fS27_4, fS27_5, kS28, lS28, kS29, lS29, kS30, lS30, kS31, fS31_3, fS31_4, kS32, lS32, kS33, lS33, kS34, fS34_3, fS34_4, kS35, lS35, kS36, lS36, kS37, kS38, fS38_0, kS39, lS39, kS40, fS40_0, kS41, lS41, kS42, fS42_0, kS43, lS43, kS44, fS44_0, kS45, lS45, kS46, fS46_0, kS47, lS47, kS48, fS48_0, kS49, lS49, kS50, fS50_0, kS51, lS51, kS52, fS52_0, kS53, lS53, kS54, fS54_0, kS55, lS55, kS56, fS56_5, fS56_6, fS56_7, fS56_8, fS56_9, kS57, lS57, kS58, lS58, kS59, lS59, kS60, lS60, kS61, lS61, kS62, fS62_5, fS62_6, fS62_7, fS62_8, fS62_9, kS63, lS63, kS64, lS64, kS65, lS65, kS66, lS66, kS67, lS67, kS68, fS68_2, fS68_3, fS68_4, fS68_5, fS68_6, fS68_8, fS68_18, fS68_19, fS68_21, fS68_22, fS68_23, fS68_24, fS68_25, fS68_26, fS68_27, fS68_28, fS68_30, fS68_32, fS68_33, fS68_34, fS68_35, kS69, lS69, kS70, lS70, kS71, lS71, kS72, lS72, kS73, lS73, kS74, lS74, kS75, lS75, kS76, lS76, kS77, lS77, kS78, lS78, kS79, lS79, kS80, lS80, kS81, lS81, kS82, lS82, kS83, lS83, kS84, lS84, kS85, lS85, kS86, lS86, kS87, lS87, kS88, lS88, kS89, lS89, k122_f, hmc, a1, c78, u78_0, u78_1, u78_2, u78_5, u78_6, u78_7, u78_10, u78_11, u78_12, u78_15, u78_16, u78_17, u78_18, u78_19, u78_20, u78_21, u78_22, u78_26, hk3, (wk27 L).a, b1']
    · by_cases q : c = o
      · rw [q]; exact hT
      · rw [sL_e, lb_or, lb_one_shl (by omega) hc, decide_eq_false q, Bool.or_false, j7 27 6 (by omega)] at hl
        have := tbl_iff.mp (hB c hc hl)
        refine tbl_iff.mpr (fun l hl2 => ?_)
        rw [sL_1, sL_n (by omega), j6 28 _ (by omega) (by omega), j6 29 _ (by omega) (by omega), j7 30 _ (by omega)]
        exact this l hl2
set_option maxRecDepth 100000 in
set_option maxHeartbeats 400000 in
theorem k14 {g : Nat → Int32} {o : Nat} {h : aH} (G : HG h g) (hC : ∀ j, h.1 1 j = strF j) (ho : inG g o) (hB : IBt g h) (L d : Nat) : ∃ h', call (d + 18) 14 [.ref 27, .ref 19, .int (nI o)] (S0 L) h = some (none, S0 L, h') ∧ LRN h h' ∧ IBt g h' ∧ tbl h' g o := by
  obtain ⟨h', a, b, c, e, -⟩ := k14x G hC ho hB L d
  exact ⟨h', a, b, c, e⟩
