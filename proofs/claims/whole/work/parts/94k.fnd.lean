/-! found -/
noncomputable def cntP (P : List Nat → Prop) : List (List Nat) → Nat
  | [] => 0
  | r :: rs => br (P r) 1 0 + cntP P rs
set_option maxRecDepth 100000 in
set_option maxHeartbeats 400000 in
theorem cntP_app (P : List Nat → Prop) : ∀ a b, cntP P (a ++ b) = cntP P a + cntP P b
  | [], b => by rw [List.nil_append, cntP]; omega
  | r :: a, b => by rw [List.cons_append, cntP, cntP_app P a b, cntP]; omega
set_option maxRecDepth 100000 in
set_option maxHeartbeats 400000 in
theorem cntP_filter (P Q : List Nat → Prop) (f : List Nat → Bool) (h : ∀ r, P r ↔ (f r = true ∧ Q r)) : ∀ rs, cntP P rs = cntP Q (rs.filter f)
  | [] => rfl
  | r :: rs => by
    rw [cntP, cntP_filter P Q f h rs, List.filter_cons]
    by_cases q : f r = true
    · rw [if_pos q, cntP]
      congr 1
      by_cases z : Q r
      · rw [br_pos z, br_pos ((h r).mpr ⟨q, z⟩)]
      · rw [br_neg z, br_neg (fun y => z ((h r).mp y).2)]
    · rw [if_neg q, br_neg (fun y => q ((h r).mp y).1), Nat.zero_add]
set_option maxRecDepth 100000 in
set_option maxHeartbeats 400000 in
theorem sub0 (x y : Int64) : (x &&& (y ^^^ -1) = 0) = (∀ b, b < 64 → lb x b = true → lb y b = true) := by
  apply propext
  rw [lb_zero]
  constructor
  · intro h b hb hx
    have := h b hb
    rw [lb_and, lb_xor, lb_m1 b hb, hx] at this
    cases hy : lb y b with
    | true => rfl
    | false => rw [hy] at this; cases this
  · intro h b hb
    rw [lb_and, lb_xor, lb_m1 b hb]
    cases hx : lb x b with
    | false => rfl
    | true => rw [h b hb hx]; rfl
def bitc (c : Nat) : Nat := c % 7 + 8 * (c / 7)
def tok (g : Nat → Int32) (it : Nat → Int32) (n m k : Nat) : Prop := ∀ i, k ≤ i → i < n + m → (i < n → crn g (it i)) ∧ (n ≤ i → cel g (it i))
def cn (x : Int32) : Nat := x.toNatClampNeg
def fitP (g : Nat → Int32) (o l : Nat) (it : Nat → Int32) (n m : Nat) (r : List Nat) : Prop := ((∀ i, i < n → cn (it i) ∈ pcs o r) ∧ ∀ i, n ≤ i → i < n + m → ins o r (bitc (cn (it i))) = true) ∧ rp g o r ≤ l
def Fr37 (h h' : aH) : Prop := ∀ c k, c ≠ 37 → h'.1 c k = h.1 c k ∧ h'.2.1 c k = h.2.1 c k
set_option maxRecDepth 100000 in
set_option maxHeartbeats 400000 in
theorem z19 {g : Nat → Int32} {rw n m : Nat} (hrw : rw < 8) (hn : n ≤ 6) (hm : m ≤ 6) (it : Nat → Int32) (L d : Nat) : ∀ (q k : Nat) (v6 : Value), k + q = n + m → ∀ h : aH, HG h g → (∀ i, i < n + m → h.1 (41 + 2 * rw) i = it i) → ∃ h', Fr37 h h' ∧ h'.1 = h.1 ∧ h'.2.2 = h.2.2 ∧ ((tok g it n m k ∧ ev (d + 2) 19 13 [.ref 37, .ref 19, .ref (40 + 2 * rw), .int (nI n), .int (nI m), .int (nI k), v6] [] (S0 L) h = some (some (.int (nI 1)), S0 L, h') ∧ (∀ b, b < 64 → lb (h'.2.1 37 3) b = (lb (h.2.1 37 3) b || pB (∃ i, k ≤ i ∧ i < n ∧ cn (it i) = b))) ∧ (∀ b, b < 64 → lb (h'.2.1 37 4) b = (lb (h.2.1 37 4) b || pB (∃ i, k ≤ i ∧ n ≤ i ∧ i < n + m ∧ bitc (cn (it i)) = b)))) ∨ (¬ tok g it n m k ∧ ev (d + 2) 19 13 [.ref 37, .ref 19, .ref (40 + 2 * rw), .int (nI n), .int (nI m), .int (nI k), v6] [] (S0 L) h = some (some (.int (nI 0)), S0 L, h'))) := by
  intro q
  induction q with
  | zero =>
    intro k v6 hk h G hi
    refine ⟨h, fun _ _ _ => ⟨rfl, rfl⟩, rfl, rfl, Or.inl ⟨fun i h1 h2 => by omega, ?_, fun b hb => ?_, fun b hb => ?_⟩⟩
    · rw [u19_13]
      simp (disch := first | assumption | omega) only [u19_0, u19_1, u19_2, u19_5, u19_6, u19_7, u19_10, u19_11, u19_15, u19_16, u19_18, u19_19, u19_22, u19_23, u19_26, u19_28, u19_29, u19_31, u19_33, u19_34, u19_37, u19_38, u19_40, u19_43, u19_46, u19_49, u19_50, u19_52, u19_55, u19_58, u19_59, u19_60, u19_62, u19_63, u19_66, u19_67, u19_67i, u19_68, u19_71, u19_72, u19_74, u19_75, u19_76, u19_79, u19_82, u19_83, u19_83i, u19_84, u19_87, u19_88, u19_90, u19_93, u19_94, u19_95, u19_98, u19_101, u19_104, u19_105, ↓br_eq, ↓reduceIte, gd_true, ls_0, ls_1i, ls_1r, ls_1n, ls_1l, ls_2, ls2_eq, List.set_cons_zero, List.set_cons_succ, rf_s, cs_nil, cs_int, cs_ref, cs_long, Option.bind_some, Option.toList_some, Option.toList_none, List.nil_append, List.cons_append, Nat.reduceAdd, Nat.reduceSub, Nat.reduceMul, Nat.reduceLT, Nat.reduceLeDiff, Nat.reduceEqDiff, Int32.reduceAdd, Int32.reduceSub, Int32.reduceMul, Int32.reduceLT, Int32.reduceLE, Int32.reduceToInt, Int32.reduceToNatClampNeg, Int.reduceLE, Int.reduceLT, Int.reduceSub, Int.reduceToNat, and_self, true_and, and_true, or_true, true_or, false_or, or_false, false_and, and_false, not_false_eq_true, not_true_eq_false, eq_self, ↓li_m1, li_0, li_1, li_2, li_3, li_4, li_5, li_6, li_7, li_8, li_10, li_11, li_12, li_13, li_14, li_16, li_20, li_21, li_22, li_23, li_24, li_26, li_32, li_40, li_42, li_46, li_48, li_56, li_57, li_59, li_64, li_72, li_97, li_100, li_102, li_106, li_110, li_119, li_122, li_127, li_194, li_224, li_255, li_300, li_320, li_388, li_500, li_832, li_1000, ltT, ltF, leT, leF, eqT, eqF, eqmF, eqmF2, mlt, mle, mlt2, mle2, inT, cl, sbN, adm, mad, nI_add, pk_mul, dvN, rmN, rmN2, ofN, bo1, bo0, xle, xlt, xnl, xnt, xgt, xgt2, xge, xge0, xmo, dmN, kS0, lS0, kS1, lS1, kS2, lS2, kS3, lS3, kS4, lS4, kS5, lS5, kS6, lS6, kS7, lS7, kS8, fS8_0, fS8_1, fS8_2, fS8_3, fS8_4, fS8_5, fS8_6, fS8_7, fS8_8, fS8_9, kS9, lS9, fS9_0, fS9_1, fS9_2, fS9_3, fS9_4, fS9_5, fS9_6, fS9_7, kS10, fS10_0, fS10_1, kS11, fS11_0, kS12, lS12, kS13, fS13_5, fS13_6, fS13_7, fS13_8, fS13_9, kS14, lS14, kS15, lS15, kS16, lS16, kS17, lS17, kS18, lS18, kS19, fS19_5, fS19_6, fS19_7, fS19_8, fS19_9, kS20, lS20, kS21, lS21, kS22, lS22, kS23, lS23, kS24, lS24, kS25, lS25, fS25_0, fS25_1, kS26, kS27, fS27_3, fS27_4, fS27_5, kS28, lS28, kS29, lS29, kS30, lS30, kS31, fS31_3, fS31_4, kS32, lS32, kS33, lS33, kS34, fS34_3, fS34_4, kS35, lS35, kS36, lS36, kS37, kS38, fS38_0, kS39, lS39, kS40, fS40_0, kS41, lS41, kS42, fS42_0, kS43, lS43, kS44, fS44_0, kS45, lS45, kS46, fS46_0, kS47, lS47, kS48, fS48_0, kS49, lS49, kS50, fS50_0, kS51, lS51, kS52, fS52_0, kS53, lS53, kS54, fS54_0, kS55, lS55, kS56, fS56_5, fS56_6, fS56_7, fS56_8, fS56_9, kS57, lS57, kS58, lS58, kS59, lS59, kS60, lS60, kS61, lS61, kS62, fS62_5, fS62_6, fS62_7, fS62_8, fS62_9, kS63, lS63, kS64, lS64, kS65, lS65, kS66, lS66, kS67, lS67, kS68, fS68_2, fS68_3, fS68_4, fS68_5, fS68_6, fS68_8, fS68_18, fS68_19, fS68_21, fS68_22, fS68_23, fS68_24, fS68_25, fS68_26, fS68_27, fS68_28, fS68_30, fS68_32, fS68_33, fS68_34, fS68_35, kS69, lS69, kS70, lS70, kS71, lS71, kS72, lS72, kS73, lS73, kS74, lS74, kS75, lS75, kS76, lS76, kS77, lS77, kS78, lS78, kS79, lS79, kS80, lS80, kS81, lS81, kS82, lS82, kS83, lS83, kS84, lS84, kS85, lS85, kS86, lS86, kS87, lS87, kS88, lS88, kS89, lS89]
    · rw [pB_f (fun ⟨i, a, b, _⟩ => by omega), Bool.or_false]
    · rw [pB_f (fun ⟨i, a, b, c, _⟩ => by omega), Bool.or_false]
  | succ q ih =>
    intro k v6 hk h G hi
    have w7 := G.1.w7
    have h6 := G.1.h6
    have ei := hi k (by omega)
    by_cases kn : k < n
    · by_cases hc : crn g (it k)
      · obtain ⟨h0, c, -, ec, cin⟩ := hc
        have c56 := inG56 w7 h6 cin
        have a1 := k28_y G h0 cin L d
        have hcn : cn (it k) = c := by unfold cn; rw [ec, cl (by omega)]
        have F : Fr37 h (sL h 37 3 (h.2.1 37 3 ||| (1 <<< ((nI c).toInt64 &&& 63)))) := fun c' k' hc' => ⟨rfl, sL_n (by omega)⟩
        obtain ⟨h', b1, b2, b3, b4⟩ := ih (k + 1) (.int (nI c)) (by omega) _ (G.of (fun c' k' p1 p2 => F c' k' (by omega))) hi
        refine ⟨h', fun c' k' hc' => ⟨(b1 c' k' hc').1.trans (F c' k' hc').1, (b1 c' k' hc').2.trans (F c' k' hc').2⟩, b2, b3, ?_⟩
        have st : ev (d + 2) 19 13 [.ref 37, .ref 19, .ref (40 + 2 * rw), .int (nI n), .int (nI m), .int (nI k), v6] [] (S0 L) h = ev (d + 2) 19 13 [.ref 37, .ref 19, .ref (40 + 2 * rw), .int (nI n), .int (nI m), .int (nI (k + 1)), .int (nI c)] [] (S0 L) (sL h 37 3 (h.2.1 37 3 ||| (1 <<< ((nI c).toInt64 &&& 63)))) := by
          conv => lhs; rw [u19_13]
          simp (disch := first | assumption | omega) only [u19_0, u19_1, u19_2, u19_5, u19_6, u19_7, u19_10, u19_11, u19_15, u19_16, u19_18, u19_19, u19_22, u19_23, u19_26, u19_28, u19_29, u19_31, u19_33, u19_34, u19_37, u19_38, u19_40, u19_43, u19_46, u19_49, u19_50, u19_52, u19_55, u19_58, u19_59, u19_60, u19_62, u19_63, u19_66, u19_67, u19_67i, u19_68, u19_71, u19_72, u19_74, u19_75, u19_76, u19_79, u19_82, u19_83, u19_83i, u19_84, u19_87, u19_88, u19_90, u19_93, u19_94, u19_95, u19_98, u19_101, u19_104, u19_105, ↓br_eq, ↓reduceIte, gd_true, ls_0, ls_1i, ls_1r, ls_1n, ls_1l, ls_2, ls2_eq, List.set_cons_zero, List.set_cons_succ, rf_s, cs_nil, cs_int, cs_ref, cs_long, Option.bind_some, Option.toList_some, Option.toList_none, List.nil_append, List.cons_append, Nat.reduceAdd, Nat.reduceSub, Nat.reduceMul, Nat.reduceLT, Nat.reduceLeDiff, Nat.reduceEqDiff, Int32.reduceAdd, Int32.reduceSub, Int32.reduceMul, Int32.reduceLT, Int32.reduceLE, Int32.reduceToInt, Int32.reduceToNatClampNeg, Int.reduceLE, Int.reduceLT, Int.reduceSub, Int.reduceToNat, and_self, true_and, and_true, or_true, true_or, false_or, or_false, false_and, and_false, not_false_eq_true, not_true_eq_false, eq_self, ↓li_m1, li_0, li_1, li_2, li_3, li_4, li_5, li_6, li_7, li_8, li_10, li_11, li_12, li_13, li_14, li_16, li_20, li_21, li_22, li_23, li_24, li_26, li_32, li_40, li_42, li_46, li_48, li_56, li_57, li_59, li_64, li_72, li_97, li_100, li_102, li_106, li_110, li_119, li_122, li_127, li_194, li_224, li_255, li_300, li_320, li_388, li_500, li_832, li_1000, ltT, ltF, leT, leF, eqT, eqF, eqmF, eqmF2, mlt, mle, mlt2, mle2, inT, cl, sbN, adm, mad, nI_add, pk_mul, dvN, rmN, rmN2, ofN, bo1, bo0, xle, xlt, xnl, xnt, xgt, xgt2, xge, xge0, xmo, dmN, kS0, lS0, kS1, lS1, kS2, lS2, kS3, lS3, kS4, lS4, kS5, lS5, kS6, lS6, kS7, lS7, kS8, fS8_0, fS8_1, fS8_2, fS8_3, fS8_4, fS8_5, fS8_6, fS8_7, fS8_8, fS8_9, kS9, lS9, fS9_0, fS9_1, fS9_2, fS9_3, fS9_4, fS9_5, fS9_6, fS9_7, kS10, fS10_0, fS10_1, kS11, fS11_0, kS12, lS12, kS13, fS13_5, fS13_6, fS13_7, fS13_8, fS13_9, kS14, lS14, kS15, lS15, kS16, lS16, kS17, lS17, kS18, lS18, kS19, fS19_5, fS19_6, fS19_7, fS19_8, fS19_9, kS20, lS20, kS21, lS21, kS22, lS22, kS23, lS23, kS24, lS24, kS25, lS25, fS25_0, fS25_1, kS26, kS27, fS27_3, fS27_4, fS27_5, kS28, lS28, kS29, lS29, kS30, lS30, kS31, fS31_3, fS31_4, kS32, lS32, kS33, lS33, kS34, fS34_3, fS34_4, kS35, lS35, kS36, lS36, kS37, kS38, fS38_0, kS39, lS39, kS40, fS40_0, kS41, lS41, kS42, fS42_0, kS43, lS43, kS44, fS44_0, kS45, lS45, kS46, fS46_0, kS47, lS47, kS48, fS48_0, kS49, lS49, kS50, fS50_0, kS51, lS51, kS52, fS52_0, kS53, lS53, kS54, fS54_0, kS55, lS55, kS56, fS56_5, fS56_6, fS56_7, fS56_8, fS56_9, kS57, lS57, kS58, lS58, kS59, lS59, kS60, lS60, kS61, lS61, kS62, fS62_5, fS62_6, fS62_7, fS62_8, fS62_9, kS63, lS63, kS64, lS64, kS65, lS65, kS66, lS66, kS67, lS67, kS68, fS68_2, fS68_3, fS68_4, fS68_5, fS68_6, fS68_8, fS68_18, fS68_19, fS68_21, fS68_22, fS68_23, fS68_24, fS68_25, fS68_26, fS68_27, fS68_28, fS68_30, fS68_32, fS68_33, fS68_34, fS68_35, kS69, lS69, kS70, lS70, kS71, lS71, kS72, lS72, kS73, lS73, kS74, lS74, kS75, lS75, kS76, lS76, kS77, lS77, kS78, lS78, kS79, lS79, kS80, lS80, kS81, lS81, kS82, lS82, kS83, lS83, kS84, lS84, kS85, lS85, kS86, lS86, kS87, lS87, kS88, lS88, kS89, lS89, fRow, kRow, fItm, kItm, lItm, ei, ec, a1]
        rcases b4 with ⟨t1, t2, t3, t4⟩ | ⟨t1, t2⟩
        · refine Or.inl ⟨fun i i1 i2 => ?_, st.trans t2, fun b hb => ?_, fun b hb => ?_⟩
          · by_cases z : i = k
            · rw [z]; exact ⟨fun _ => ⟨h0, c, by omega, ec, cin⟩, fun z2 => by omega⟩
            · exact t1 i (by omega) i2
          · rw [t3 b hb, sL_e, lb_or, lb_one_shl (by omega) hb, Bool.or_assoc]
            congr 1
            by_cases z : b = c
            · rw [decide_eq_true z, Bool.true_or, pB_t ⟨k, by omega, kn, by rw [hcn, z]⟩]
            · rw [decide_eq_false z, Bool.false_or]
              congr 1
              apply propext
              constructor
              · rintro ⟨i, x1, x2, x3⟩; exact ⟨i, by omega, x2, x3⟩
              · rintro ⟨i, x1, x2, x3⟩
                refine ⟨i, ?_, x2, x3⟩
                by_cases y : i = k
                · rw [y, hcn] at x3; exact absurd x3.symm z
                · omega
          · rw [t4 b hb, sL_n (by omega)]
            congr 2
            apply propext
            constructor
            · rintro ⟨i, x1, x2, x3⟩; exact ⟨i, by omega, x2, x3⟩
            · rintro ⟨i, x1, x2, x3⟩; exact ⟨i, by omega, x2, x3⟩
        · exact Or.inr ⟨fun z => t1 (fun i i1 i2 => z i (by omega) i2), st.trans t2⟩
      · have a1 := k28_x G hc L d
        refine ⟨h, fun _ _ _ => ⟨rfl, rfl⟩, rfl, rfl, Or.inr ⟨fun z => hc ((z k (by omega) (by omega)).1 kn), ?_⟩⟩
        rw [u19_13]
        simp (disch := first | assumption | omega) only [u19_0, u19_1, u19_2, u19_5, u19_6, u19_7, u19_10, u19_11, u19_15, u19_16, u19_18, u19_19, u19_22, u19_23, u19_26, u19_28, u19_29, u19_31, u19_33, u19_34, u19_37, u19_38, u19_40, u19_43, u19_46, u19_49, u19_50, u19_52, u19_55, u19_58, u19_59, u19_60, u19_62, u19_63, u19_66, u19_67, u19_67i, u19_68, u19_71, u19_72, u19_74, u19_75, u19_76, u19_79, u19_82, u19_83, u19_83i, u19_84, u19_87, u19_88, u19_90, u19_93, u19_94, u19_95, u19_98, u19_101, u19_104, u19_105, ↓br_eq, ↓reduceIte, gd_true, ls_0, ls_1i, ls_1r, ls_1n, ls_1l, ls_2, ls2_eq, List.set_cons_zero, List.set_cons_succ, rf_s, cs_nil, cs_int, cs_ref, cs_long, Option.bind_some, Option.toList_some, Option.toList_none, List.nil_append, List.cons_append, Nat.reduceAdd, Nat.reduceSub, Nat.reduceMul, Nat.reduceLT, Nat.reduceLeDiff, Nat.reduceEqDiff, Int32.reduceAdd, Int32.reduceSub, Int32.reduceMul, Int32.reduceLT, Int32.reduceLE, Int32.reduceToInt, Int32.reduceToNatClampNeg, Int.reduceLE, Int.reduceLT, Int.reduceSub, Int.reduceToNat, and_self, true_and, and_true, or_true, true_or, false_or, or_false, false_and, and_false, not_false_eq_true, not_true_eq_false, eq_self, ↓li_m1, li_0, li_1, li_2, li_3, li_4, li_5, li_6, li_7, li_8, li_10, li_11, li_12, li_13, li_14, li_16, li_20, li_21, li_22, li_23, li_24, li_26, li_32, li_40, li_42, li_46, li_48, li_56, li_57, li_59, li_64, li_72, li_97, li_100, li_102, li_106, li_110, li_119, li_122, li_127, li_194, li_224, li_255, li_300, li_320, li_388, li_500, li_832, li_1000, ltT, ltF, leT, leF, eqT, eqF, eqmF, eqmF2, mlt, mle, mlt2, mle2, inT, cl, sbN, adm, mad, nI_add, pk_mul, dvN, rmN, rmN2, ofN, bo1, bo0, xle, xlt, xnl, xnt, xgt, xgt2, xge, xge0, xmo, dmN, kS0, lS0, kS1, lS1, kS2, lS2, kS3, lS3, kS4, lS4, kS5, lS5, kS6, lS6, kS7, lS7, kS8, fS8_0, fS8_1, fS8_2, fS8_3, fS8_4, fS8_5, fS8_6, fS8_7, fS8_8, fS8_9, kS9, lS9, fS9_0, fS9_1, fS9_2, fS9_3, fS9_4, fS9_5, fS9_6, fS9_7, kS10, fS10_0, fS10_1, kS11, fS11_0, kS12, lS12, kS13, fS13_5, fS13_6, fS13_7, fS13_8, fS13_9, kS14, lS14, kS15, lS15, kS16, lS16, kS17, lS17, kS18, lS18, kS19, fS19_5, fS19_6, fS19_7, fS19_8, fS19_9, kS20, lS20, kS21, lS21, kS22, lS22, kS23, lS23, kS24, lS24, kS25, lS25, fS25_0, fS25_1, kS26, kS27, fS27_3, fS27_4, fS27_5, kS28, lS28, kS29, lS29, kS30, lS30, kS31, fS31_3, fS31_4, kS32, lS32, kS33, lS33, kS34, fS34_3, fS34_4, kS35, lS35, kS36, lS36, kS37, kS38, fS38_0, kS39, lS39, kS40, fS40_0, kS41, lS41, kS42, fS42_0, kS43, lS43, kS44, fS44_0, kS45, lS45, kS46, fS46_0, kS47, lS47, kS48, fS48_0, kS49, lS49, kS50, fS50_0, kS51, lS51, kS52, fS52_0, kS53, lS53, kS54, fS54_0, kS55, lS55, kS56, fS56_5, fS56_6, fS56_7, fS56_8, fS56_9, kS57, lS57, kS58, lS58, kS59, lS59, kS60, lS60, kS61, lS61, kS62, fS62_5, fS62_6, fS62_7, fS62_8, fS62_9, kS63, lS63, kS64, lS64, kS65, lS65, kS66, lS66, kS67, lS67, kS68, fS68_2, fS68_3, fS68_4, fS68_5, fS68_6, fS68_8, fS68_18, fS68_19, fS68_21, fS68_22, fS68_23, fS68_24, fS68_25, fS68_26, fS68_27, fS68_28, fS68_30, fS68_32, fS68_33, fS68_34, fS68_35, kS69, lS69, kS70, lS70, kS71, lS71, kS72, lS72, kS73, lS73, kS74, lS74, kS75, lS75, kS76, lS76, kS77, lS77, kS78, lS78, kS79, lS79, kS80, lS80, kS81, lS81, kS82, lS82, kS83, lS83, kS84, lS84, kS85, lS85, kS86, lS86, kS87, lS87, kS88, lS88, kS89, lS89, fRow, kRow, fItm, kItm, lItm, ei, a1]
    · by_cases hc : cel g (it k)
      · obtain ⟨c, -, ec, c1, c2⟩ := hc
        obtain ⟨c42, b64, -, -⟩ := cell_b w7 h6 c1 c2
        have a1 := k29_y G c1 c2 L (d + 1)
        have hcn : cn (it k) = c := by unfold cn; rw [ec, cl (by omega)]
        have F : Fr37 h (sL h 37 4 (h.2.1 37 4 ||| (1 <<< ((nI (c % 7 + 8 * (c / 7))).toInt64 &&& 63)))) := fun c' k' hc' => ⟨rfl, sL_n (by omega)⟩
        obtain ⟨h', b1, b2, b3, b4⟩ := ih (k + 1) (.int (nI c)) (by omega) _ (G.of (fun c' k' p1 p2 => F c' k' (by omega))) hi
        refine ⟨h', fun c' k' hc' => ⟨(b1 c' k' hc').1.trans (F c' k' hc').1, (b1 c' k' hc').2.trans (F c' k' hc').2⟩, b2, b3, ?_⟩
        have st : ev (d + 2) 19 13 [.ref 37, .ref 19, .ref (40 + 2 * rw), .int (nI n), .int (nI m), .int (nI k), v6] [] (S0 L) h = ev (d + 2) 19 13 [.ref 37, .ref 19, .ref (40 + 2 * rw), .int (nI n), .int (nI m), .int (nI (k + 1)), .int (nI c)] [] (S0 L) (sL h 37 4 (h.2.1 37 4 ||| (1 <<< ((nI (c % 7 + 8 * (c / 7))).toInt64 &&& 63)))) := by
          conv => lhs; rw [u19_13]
          simp (disch := first | assumption | omega) only [u19_0, u19_1, u19_2, u19_5, u19_6, u19_7, u19_10, u19_11, u19_15, u19_16, u19_18, u19_19, u19_22, u19_23, u19_26, u19_28, u19_29, u19_31, u19_33, u19_34, u19_37, u19_38, u19_40, u19_43, u19_46, u19_49, u19_50, u19_52, u19_55, u19_58, u19_59, u19_60, u19_62, u19_63, u19_66, u19_67, u19_67i, u19_68, u19_71, u19_72, u19_74, u19_75, u19_76, u19_79, u19_82, u19_83, u19_83i, u19_84, u19_87, u19_88, u19_90, u19_93, u19_94, u19_95, u19_98, u19_101, u19_104, u19_105, ↓br_eq, ↓reduceIte, gd_true, ls_0, ls_1i, ls_1r, ls_1n, ls_1l, ls_2, ls2_eq, List.set_cons_zero, List.set_cons_succ, rf_s, cs_nil, cs_int, cs_ref, cs_long, Option.bind_some, Option.toList_some, Option.toList_none, List.nil_append, List.cons_append, Nat.reduceAdd, Nat.reduceSub, Nat.reduceMul, Nat.reduceLT, Nat.reduceLeDiff, Nat.reduceEqDiff, Int32.reduceAdd, Int32.reduceSub, Int32.reduceMul, Int32.reduceLT, Int32.reduceLE, Int32.reduceToInt, Int32.reduceToNatClampNeg, Int.reduceLE, Int.reduceLT, Int.reduceSub, Int.reduceToNat, and_self, true_and, and_true, or_true, true_or, false_or, or_false, false_and, and_false, not_false_eq_true, not_true_eq_false, eq_self, ↓li_m1, li_0, li_1, li_2, li_3, li_4, li_5, li_6, li_7, li_8, li_10, li_11, li_12, li_13, li_14, li_16, li_20, li_21, li_22, li_23, li_24, li_26, li_32, li_40, li_42, li_46, li_48, li_56, li_57, li_59, li_64, li_72, li_97, li_100, li_102, li_106, li_110, li_119, li_122, li_127, li_194, li_224, li_255, li_300, li_320, li_388, li_500, li_832, li_1000, ltT, ltF, leT, leF, eqT, eqF, eqmF, eqmF2, mlt, mle, mlt2, mle2, inT, cl, sbN, adm, mad, nI_add, pk_mul, dvN, rmN, rmN2, ofN, bo1, bo0, xle, xlt, xnl, xnt, xgt, xgt2, xge, xge0, xmo, dmN, kS0, lS0, kS1, lS1, kS2, lS2, kS3, lS3, kS4, lS4, kS5, lS5, kS6, lS6, kS7, lS7, kS8, fS8_0, fS8_1, fS8_2, fS8_3, fS8_4, fS8_5, fS8_6, fS8_7, fS8_8, fS8_9, kS9, lS9, fS9_0, fS9_1, fS9_2, fS9_3, fS9_4, fS9_5, fS9_6, fS9_7, kS10, fS10_0, fS10_1, kS11, fS11_0, kS12, lS12, kS13, fS13_5, fS13_6, fS13_7, fS13_8, fS13_9, kS14, lS14, kS15, lS15, kS16, lS16, kS17, lS17, kS18, lS18, kS19, fS19_5, fS19_6, fS19_7, fS19_8, fS19_9, kS20, lS20, kS21, lS21, kS22, lS22, kS23, lS23, kS24, lS24, kS25, lS25, fS25_0, fS25_1, kS26, kS27, fS27_3, fS27_4, fS27_5, kS28, lS28, kS29, lS29, kS30, lS30, kS31, fS31_3, fS31_4, kS32, lS32, kS33, lS33, kS34, fS34_3, fS34_4, kS35, lS35, kS36, lS36, kS37, kS38, fS38_0, kS39, lS39, kS40, fS40_0, kS41, lS41, kS42, fS42_0, kS43, lS43, kS44, fS44_0, kS45, lS45, kS46, fS46_0, kS47, lS47, kS48, fS48_0, kS49, lS49, kS50, fS50_0, kS51, lS51, kS52, fS52_0, kS53, lS53, kS54, fS54_0, kS55, lS55, kS56, fS56_5, fS56_6, fS56_7, fS56_8, fS56_9, kS57, lS57, kS58, lS58, kS59, lS59, kS60, lS60, kS61, lS61, kS62, fS62_5, fS62_6, fS62_7, fS62_8, fS62_9, kS63, lS63, kS64, lS64, kS65, lS65, kS66, lS66, kS67, lS67, kS68, fS68_2, fS68_3, fS68_4, fS68_5, fS68_6, fS68_8, fS68_18, fS68_19, fS68_21, fS68_22, fS68_23, fS68_24, fS68_25, fS68_26, fS68_27, fS68_28, fS68_30, fS68_32, fS68_33, fS68_34, fS68_35, kS69, lS69, kS70, lS70, kS71, lS71, kS72, lS72, kS73, lS73, kS74, lS74, kS75, lS75, kS76, lS76, kS77, lS77, kS78, lS78, kS79, lS79, kS80, lS80, kS81, lS81, kS82, lS82, kS83, lS83, kS84, lS84, kS85, lS85, kS86, lS86, kS87, lS87, kS88, lS88, kS89, lS89, fRow, kRow, fItm, kItm, lItm, ei, ec, a1, k123]
        rcases b4 with ⟨t1, t2, t3, t4⟩ | ⟨t1, t2⟩
        · refine Or.inl ⟨fun i i1 i2 => ?_, st.trans t2, fun b hb => ?_, fun b hb => ?_⟩
          · by_cases z : i = k
            · rw [z]; exact ⟨fun z2 => by omega, fun _ => ⟨c, by omega, ec, c1, c2⟩⟩
            · exact t1 i (by omega) i2
          · rw [t3 b hb, sL_n (by omega)]
            congr 2
            apply propext
            constructor
            · rintro ⟨i, x1, x2, x3⟩; exact ⟨i, by omega, x2, x3⟩
            · rintro ⟨i, x1, x2, x3⟩; omega
          · rw [t4 b hb, sL_e, lb_or, lb_one_shl b64 hb, Bool.or_assoc]
            congr 1
            by_cases z : b = c % 7 + 8 * (c / 7)
            · rw [decide_eq_true z, Bool.true_or, pB_t ⟨k, by omega, by omega, by omega, by rw [hcn, z]; rfl⟩]
            · rw [decide_eq_false z, Bool.false_or]
              congr 1
              apply propext
              constructor
              · rintro ⟨i, x1, x2, x3, x4⟩; exact ⟨i, by omega, x2, x3, x4⟩
              · rintro ⟨i, x1, x2, x3, x4⟩
                refine ⟨i, ?_, x2, x3, x4⟩
                by_cases y : i = k
                · rw [y, hcn] at x4; exact absurd x4.symm z
                · omega
        · exact Or.inr ⟨fun z => t1 (fun i i1 i2 => z i (by omega) i2), st.trans t2⟩
      · have a1 := k29_x G hc L (d + 1)
        refine ⟨h, fun _ _ _ => ⟨rfl, rfl⟩, rfl, rfl, Or.inr ⟨fun z => hc ((z k (by omega) (by omega)).2 (by omega)), ?_⟩⟩
        rw [u19_13]
        simp (disch := first | assumption | omega) only [u19_0, u19_1, u19_2, u19_5, u19_6, u19_7, u19_10, u19_11, u19_15, u19_16, u19_18, u19_19, u19_22, u19_23, u19_26, u19_28, u19_29, u19_31, u19_33, u19_34, u19_37, u19_38, u19_40, u19_43, u19_46, u19_49, u19_50, u19_52, u19_55, u19_58, u19_59, u19_60, u19_62, u19_63, u19_66, u19_67, u19_67i, u19_68, u19_71, u19_72, u19_74, u19_75, u19_76, u19_79, u19_82, u19_83, u19_83i, u19_84, u19_87, u19_88, u19_90, u19_93, u19_94, u19_95, u19_98, u19_101, u19_104, u19_105, ↓br_eq, ↓reduceIte, gd_true, ls_0, ls_1i, ls_1r, ls_1n, ls_1l, ls_2, ls2_eq, List.set_cons_zero, List.set_cons_succ, rf_s, cs_nil, cs_int, cs_ref, cs_long, Option.bind_some, Option.toList_some, Option.toList_none, List.nil_append, List.cons_append, Nat.reduceAdd, Nat.reduceSub, Nat.reduceMul, Nat.reduceLT, Nat.reduceLeDiff, Nat.reduceEqDiff, Int32.reduceAdd, Int32.reduceSub, Int32.reduceMul, Int32.reduceLT, Int32.reduceLE, Int32.reduceToInt, Int32.reduceToNatClampNeg, Int.reduceLE, Int.reduceLT, Int.reduceSub, Int.reduceToNat, and_self, true_and, and_true, or_true, true_or, false_or, or_false, false_and, and_false, not_false_eq_true, not_true_eq_false, eq_self, ↓li_m1, li_0, li_1, li_2, li_3, li_4, li_5, li_6, li_7, li_8, li_10, li_11, li_12, li_13, li_14, li_16, li_20, li_21, li_22, li_23, li_24, li_26, li_32, li_40, li_42, li_46, li_48, li_56, li_57, li_59, li_64, li_72, li_97, li_100, li_102, li_106, li_110, li_119, li_122, li_127, li_194, li_224, li_255, li_300, li_320, li_388, li_500, li_832, li_1000, ltT, ltF, leT, leF, eqT, eqF, eqmF, eqmF2, mlt, mle, mlt2, mle2, inT, cl, sbN, adm, mad, nI_add, pk_mul, dvN, rmN, rmN2, ofN, bo1, bo0, xle, xlt, xnl, xnt, xgt, xgt2, xge, xge0, xmo, dmN, kS0, lS0, kS1, lS1, kS2, lS2, kS3, lS3, kS4, lS4, kS5, lS5, kS6, lS6, kS7, lS7, kS8, fS8_0, fS8_1, fS8_2, fS8_3, fS8_4, fS8_5, fS8_6, fS8_7, fS8_8, fS8_9, kS9, lS9, fS9_0, fS9_1, fS9_2, fS9_3, fS9_4, fS9_5, fS9_6, fS9_7, kS10, fS10_0, fS10_1, kS11, fS11_0, kS12, lS12, kS13, fS13_5, fS13_6, fS13_7, fS13_8, fS13_9, kS14, lS14, kS15, lS15, kS16, lS16, kS17, lS17, kS18, lS18, kS19, fS19_5, fS19_6, fS19_7, fS19_8, fS19_9, kS20, lS20, kS21, lS21, kS22, lS22, kS23, lS23, kS24, lS24, kS25, lS25, fS25_0, fS25_1, kS26, kS27, fS27_3, fS27_4, fS27_5, kS28, lS28, kS29, lS29, kS30, lS30, kS31, fS31_3, fS31_4, kS32, lS32, kS33, lS33, kS34, fS34_3, fS34_4, kS35, lS35, kS36, lS36, kS37, kS38, fS38_0, kS39, lS39, kS40, fS40_0, kS41, lS41, kS42, fS42_0, kS43, lS43, kS44, fS44_0, kS45, lS45, kS46, fS46_0, kS47, lS47, kS48, fS48_0, kS49, lS49, kS50, fS50_0, kS51, lS51, kS52, fS52_0, kS53, lS53, kS54, fS54_0, kS55, lS55, kS56, fS56_5, fS56_6, fS56_7, fS56_8, fS56_9, kS57, lS57, kS58, lS58, kS59, lS59, kS60, lS60, kS61, lS61, kS62, fS62_5, fS62_6, fS62_7, fS62_8, fS62_9, kS63, lS63, kS64, lS64, kS65, lS65, kS66, lS66, kS67, lS67, kS68, fS68_2, fS68_3, fS68_4, fS68_5, fS68_6, fS68_8, fS68_18, fS68_19, fS68_21, fS68_22, fS68_23, fS68_24, fS68_25, fS68_26, fS68_27, fS68_28, fS68_30, fS68_32, fS68_33, fS68_34, fS68_35, kS69, lS69, kS70, lS70, kS71, lS71, kS72, lS72, kS73, lS73, kS74, lS74, kS75, lS75, kS76, lS76, kS77, lS77, kS78, lS78, kS79, lS79, kS80, lS80, kS81, lS81, kS82, lS82, kS83, lS83, kS84, lS84, kS85, lS85, kS86, lS86, kS87, lS87, kS88, lS88, kS89, lS89, fRow, kRow, fItm, kItm, lItm, ei, a1]
def JF (g : Nat → Int32) (o l : Nat) (it : Nat → Int32) (n m : Nat) (h0 : aH) (rs : List (List Nat)) (h : aH) : Prop :=
  HG h g ∧ (∀ j, h.1 1 j = strF j) ∧ h.2.2 37 0 = some 19 ∧ h.1 37 1 = nI o ∧ h.1 37 2 = nI 10 ∧ h.1 37 5 = nI l ∧ h.1 37 6 = nI (cntP (fitP g o l it n m) rs) ∧
  (∀ b, b < 64 → lb (h.2.1 37 3) b = pB (∃ i, i < n ∧ cn (it i) = b)) ∧ (∀ b, b < 64 → lb (h.2.1 37 4) b = pB (∃ i, n ≤ i ∧ i < n + m ∧ bitc (cn (it i)) = b)) ∧ Fr37 h0 h
set_option maxRecDepth 100000 in
set_option maxHeartbeats 400000 in
theorem meetF {g : Nat → Int32} {o l n m : Nat} {it : Nat → Int32} {h0 : aH} (ho : inG g o) (hl : l ≤ 12) (hto : tok g it n m 0) (w7 : qW g ≤ 7) (h6 : qH g ≤ 6) (L : Nat) : ∀ rs h r x b y d, JF g o l it n m h0 rs h → isRing g o r → r.length ≤ 10 → clr g o r → (∀ i, i < 64 → lb x i = ins o r i) → (∀ i, i < 64 → lb b i = pB (i ∈ pcs o r)) → (∀ i, i < 64 → lb y i = pkW r i) → ∃ h', call (d + 3) 21 [.ref 37, .long x, .long b, .long y, .int (nI r.length)] (S0 L) h = some (none, S0 L, h') ∧ JF g o l it n m h0 (rs ++ [r]) h' := by
  intro rs h r x b y d J hr hlen hc hx hb hy
  obtain ⟨G, hC, j1, j2, j3, j4, j5, j6, j7, j8⟩ := J
  have a2 := k35r G hx (y := 0) (o := fun _ => false) (fun i _ => lb_0 i) L (d + 1)
  rw [ra_rp G.1 hr] at a2
  have rl := rp_len g r o
  have q1 : (h.2.1 37 3 &&& (b ^^^ -1) = 0) = (∀ i, i < n → cn (it i) ∈ pcs o r) := by
    rw [sub0]
    apply propext
    constructor
    · intro z i hi
      obtain ⟨-, c, hcc, ec, cin⟩ := (hto i (by omega) (by omega)).1 hi
      have c56 := inG56 w7 h6 cin
      have hcn : cn (it i) = c := by unfold cn; rw [ec, cl (by omega)]
      have := z c (by omega) (by rw [j6 c (by omega)]; exact pB_t ⟨i, hi, hcn⟩)
      rw [hb c (by omega)] at this
      rw [hcn]; exact pB_iff.mp this
    · intro z b' hb' hp
      rw [j6 b' hb'] at hp
      obtain ⟨i, hi, e⟩ := pB_iff.mp hp
      rw [hb b' hb']
      exact pB_t (e ▸ z i hi)
  have q2 : (h.2.1 37 4 &&& (x ^^^ -1) = 0) = (∀ i, n ≤ i → i < n + m → ins o r (bitc (cn (it i))) = true) := by
    rw [sub0]
    apply propext
    constructor
    · intro z i hi hi2
      obtain ⟨c, hcc, ec, c1, c2⟩ := (hto i (by omega) (by omega)).2 hi
      obtain ⟨c42, b64, -, -⟩ := cell_b w7 h6 c1 c2
      have hcn : cn (it i) = c := by unfold cn; rw [ec, cl (by omega)]
      have hbb : bitc (cn (it i)) < 64 := by rw [hcn]; exact b64
      have := z (bitc (cn (it i))) hbb (by rw [j7 _ hbb]; exact pB_t ⟨i, hi, hi2, rfl⟩)
      rw [hx _ hbb] at this
      exact this
    · intro z b' hb' hp
      rw [j7 b' hb'] at hp
      obtain ⟨i, hi, hi2, e⟩ := pB_iff.mp hp
      rw [hx b' hb', ← e]
      exact z i hi hi2
  have fin : ∀ h', (h' = h ∧ ¬ fitP g o l it n m r) ∨ (h' = sI h 37 6 (nI (cntP (fitP g o l it n m) rs + 1)) ∧ fitP g o l it n m r) → JF g o l it n m h0 (rs ++ [r]) h' := by
    rintro h' (⟨rfl, z⟩ | ⟨rfl, z⟩)
    · refine ⟨G, hC, j1, j2, j3, j4, ?_, j6, j7, j8⟩
      rw [cntP_app, cntP, cntP, br_neg z]; exact j5
    · refine ⟨G.sI (by omega) _, fun j => by rw [sI_n (by omega)]; exact hC j, j1, by rw [sI_n (by omega)]; exact j2, by rw [sI_n (by omega)]; exact j3, by rw [sI_n (by omega)]; exact j4, ?_, j6, j7, fun c k hck => ⟨by rw [sI_n (by omega)]; exact (j8 c k hck).1, (j8 c k hck).2⟩⟩
      rw [sI_e, cntP_app, cntP, cntP, br_pos z]
  by_cases p1 : ∀ i, i < n → cn (it i) ∈ pcs o r
  · have q1t := q1.trans (eq_true p1)
    by_cases p2 : ∀ i, n ≤ i → i < n + m → ins o r (bitc (cn (it i))) = true
    · have q2t := q2.trans (eq_true p2)
      by_cases p3 : rp g o r ≤ l
      · refine ⟨sI h 37 6 (nI (cntP (fitP g o l it n m) rs + 1)), ?_, fin _ (Or.inr ⟨rfl, ⟨p1, p2⟩, p3⟩)⟩
        simp (disch := first | assumption | omega) only [c21, u21_0, u21_1, u21_4, u21_5, u21_8, u21_9, u21_10, u21_11, u21_12, u21_15, u21_16, u21_19, u21_20, u21_23, u21_24, u21_25, u21_26, u21_27, u21_30, u21_31, u21_34, u21_35, u21_37, u21_39, u21_42, u21_43, u21_46, u21_47, u21_48, u21_51, u21_52, u21_55, u21_58, u21_59, u21_59i, u21_60, u21_63, u21_64, u21_65, u21_68, ↓br_eq, ↓reduceIte, gd_true, ls_0, ls_1i, ls_1r, ls_1n, ls_1l, ls_2, ls2_eq, List.set_cons_zero, List.set_cons_succ, rf_s, cs_nil, cs_int, cs_ref, cs_long, Option.bind_some, Option.toList_some, Option.toList_none, List.nil_append, List.cons_append, Nat.reduceAdd, Nat.reduceSub, Nat.reduceMul, Nat.reduceLT, Nat.reduceLeDiff, Nat.reduceEqDiff, Int32.reduceAdd, Int32.reduceSub, Int32.reduceMul, Int32.reduceLT, Int32.reduceLE, Int32.reduceToInt, Int32.reduceToNatClampNeg, Int.reduceLE, Int.reduceLT, Int.reduceSub, Int.reduceToNat, and_self, true_and, and_true, or_true, true_or, false_or, or_false, false_and, and_false, not_false_eq_true, not_true_eq_false, eq_self, ↓li_m1, li_0, li_1, li_2, li_3, li_4, li_5, li_6, li_7, li_8, li_10, li_11, li_12, li_13, li_14, li_16, li_20, li_21, li_22, li_23, li_24, li_26, li_32, li_40, li_42, li_46, li_48, li_56, li_57, li_59, li_64, li_72, li_97, li_100, li_102, li_106, li_110, li_119, li_122, li_127, li_194, li_224, li_255, li_300, li_320, li_388, li_500, li_832, li_1000, ltT, ltF, leT, leF, eqT, eqF, eqmF, eqmF2, mlt, mle, mlt2, mle2, inT, cl, sbN, adm, mad, nI_add, pk_mul, dvN, rmN, rmN2, ofN, bo1, bo0, xle, xlt, xnl, xnt, xgt, xgt2, xge, xge0, xmo, dmN, kS0, lS0, kS1, lS1, kS2, lS2, kS3, lS3, kS4, lS4, kS5, lS5, kS6, lS6, kS7, lS7, kS8, fS8_0, fS8_1, fS8_2, fS8_3, fS8_4, fS8_5, fS8_6, fS8_7, fS8_8, fS8_9, kS9, lS9, fS9_0, fS9_1, fS9_2, fS9_3, fS9_4, fS9_5, fS9_6, fS9_7, kS10, fS10_0, fS10_1, kS11, fS11_0, kS12, lS12, kS13, fS13_5, fS13_6, fS13_7, fS13_8, fS13_9, kS14, lS14, kS15, lS15, kS16, lS16, kS17, lS17, kS18, lS18, kS19, fS19_5, fS19_6, fS19_7, fS19_8, fS19_9, kS20, lS20, kS21, lS21, kS22, lS22, kS23, lS23, kS24, lS24, kS25, lS25, fS25_0, fS25_1, kS26, kS27, fS27_3, fS27_4, fS27_5, kS28, lS28, kS29, lS29, kS30, lS30, kS31, fS31_3, fS31_4, kS32, lS32, kS33, lS33, kS34, fS34_3, fS34_4, kS35, lS35, kS36, lS36, kS37, kS38, fS38_0, kS39, lS39, kS40, fS40_0, kS41, lS41, kS42, fS42_0, kS43, lS43, kS44, fS44_0, kS45, lS45, kS46, fS46_0, kS47, lS47, kS48, fS48_0, kS49, lS49, kS50, fS50_0, kS51, lS51, kS52, fS52_0, kS53, lS53, kS54, fS54_0, kS55, lS55, kS56, fS56_5, fS56_6, fS56_7, fS56_8, fS56_9, kS57, lS57, kS58, lS58, kS59, lS59, kS60, lS60, kS61, lS61, kS62, fS62_5, fS62_6, fS62_7, fS62_8, fS62_9, kS63, lS63, kS64, lS64, kS65, lS65, kS66, lS66, kS67, lS67, kS68, fS68_2, fS68_3, fS68_4, fS68_5, fS68_6, fS68_8, fS68_18, fS68_19, fS68_21, fS68_22, fS68_23, fS68_24, fS68_25, fS68_26, fS68_27, fS68_28, fS68_30, fS68_32, fS68_33, fS68_34, fS68_35, kS69, lS69, kS70, lS70, kS71, lS71, kS72, lS72, kS73, lS73, kS74, lS74, kS75, lS75, kS76, lS76, kS77, lS77, kS78, lS78, kS79, lS79, kS80, lS80, kS81, lS81, kS82, lS82, kS83, lS83, kS84, lS84, kS85, lS85, kS86, lS86, kS87, lS87, kS88, lS88, kS89, lS89, lcE, q1t, q2t, j1, a2, j4, j5]
      · refine ⟨h, ?_, fin _ (Or.inl ⟨rfl, fun z => p3 z.2⟩)⟩
        simp (disch := first | assumption | omega) only [c21, u21_0, u21_1, u21_4, u21_5, u21_8, u21_9, u21_10, u21_11, u21_12, u21_15, u21_16, u21_19, u21_20, u21_23, u21_24, u21_25, u21_26, u21_27, u21_30, u21_31, u21_34, u21_35, u21_37, u21_39, u21_42, u21_43, u21_46, u21_47, u21_48, u21_51, u21_52, u21_55, u21_58, u21_59, u21_59i, u21_60, u21_63, u21_64, u21_65, u21_68, ↓br_eq, ↓reduceIte, gd_true, ls_0, ls_1i, ls_1r, ls_1n, ls_1l, ls_2, ls2_eq, List.set_cons_zero, List.set_cons_succ, rf_s, cs_nil, cs_int, cs_ref, cs_long, Option.bind_some, Option.toList_some, Option.toList_none, List.nil_append, List.cons_append, Nat.reduceAdd, Nat.reduceSub, Nat.reduceMul, Nat.reduceLT, Nat.reduceLeDiff, Nat.reduceEqDiff, Int32.reduceAdd, Int32.reduceSub, Int32.reduceMul, Int32.reduceLT, Int32.reduceLE, Int32.reduceToInt, Int32.reduceToNatClampNeg, Int.reduceLE, Int.reduceLT, Int.reduceSub, Int.reduceToNat, and_self, true_and, and_true, or_true, true_or, false_or, or_false, false_and, and_false, not_false_eq_true, not_true_eq_false, eq_self, ↓li_m1, li_0, li_1, li_2, li_3, li_4, li_5, li_6, li_7, li_8, li_10, li_11, li_12, li_13, li_14, li_16, li_20, li_21, li_22, li_23, li_24, li_26, li_32, li_40, li_42, li_46, li_48, li_56, li_57, li_59, li_64, li_72, li_97, li_100, li_102, li_106, li_110, li_119, li_122, li_127, li_194, li_224, li_255, li_300, li_320, li_388, li_500, li_832, li_1000, ltT, ltF, leT, leF, eqT, eqF, eqmF, eqmF2, mlt, mle, mlt2, mle2, inT, cl, sbN, adm, mad, nI_add, pk_mul, dvN, rmN, rmN2, ofN, bo1, bo0, xle, xlt, xnl, xnt, xgt, xgt2, xge, xge0, xmo, dmN, kS0, lS0, kS1, lS1, kS2, lS2, kS3, lS3, kS4, lS4, kS5, lS5, kS6, lS6, kS7, lS7, kS8, fS8_0, fS8_1, fS8_2, fS8_3, fS8_4, fS8_5, fS8_6, fS8_7, fS8_8, fS8_9, kS9, lS9, fS9_0, fS9_1, fS9_2, fS9_3, fS9_4, fS9_5, fS9_6, fS9_7, kS10, fS10_0, fS10_1, kS11, fS11_0, kS12, lS12, kS13, fS13_5, fS13_6, fS13_7, fS13_8, fS13_9, kS14, lS14, kS15, lS15, kS16, lS16, kS17, lS17, kS18, lS18, kS19, fS19_5, fS19_6, fS19_7, fS19_8, fS19_9, kS20, lS20, kS21, lS21, kS22, lS22, kS23, lS23, kS24, lS24, kS25, lS25, fS25_0, fS25_1, kS26, kS27, fS27_3, fS27_4, fS27_5, kS28, lS28, kS29, lS29, kS30, lS30, kS31, fS31_3, fS31_4, kS32, lS32, kS33, lS33, kS34, fS34_3, fS34_4, kS35, lS35, kS36, lS36, kS37, kS38, fS38_0, kS39, lS39, kS40, fS40_0, kS41, lS41, kS42, fS42_0, kS43, lS43, kS44, fS44_0, kS45, lS45, kS46, fS46_0, kS47, lS47, kS48, fS48_0, kS49, lS49, kS50, fS50_0, kS51, lS51, kS52, fS52_0, kS53, lS53, kS54, fS54_0, kS55, lS55, kS56, fS56_5, fS56_6, fS56_7, fS56_8, fS56_9, kS57, lS57, kS58, lS58, kS59, lS59, kS60, lS60, kS61, lS61, kS62, fS62_5, fS62_6, fS62_7, fS62_8, fS62_9, kS63, lS63, kS64, lS64, kS65, lS65, kS66, lS66, kS67, lS67, kS68, fS68_2, fS68_3, fS68_4, fS68_5, fS68_6, fS68_8, fS68_18, fS68_19, fS68_21, fS68_22, fS68_23, fS68_24, fS68_25, fS68_26, fS68_27, fS68_28, fS68_30, fS68_32, fS68_33, fS68_34, fS68_35, kS69, lS69, kS70, lS70, kS71, lS71, kS72, lS72, kS73, lS73, kS74, lS74, kS75, lS75, kS76, lS76, kS77, lS77, kS78, lS78, kS79, lS79, kS80, lS80, kS81, lS81, kS82, lS82, kS83, lS83, kS84, lS84, kS85, lS85, kS86, lS86, kS87, lS87, kS88, lS88, kS89, lS89, lcE, q1t, q2t, j1, a2, j4]
    · have q2f := q2.trans (eq_false p2)
      refine ⟨h, ?_, fin _ (Or.inl ⟨rfl, fun z => p2 z.1.2⟩)⟩
      simp (disch := first | assumption | omega) only [c21, u21_0, u21_1, u21_4, u21_5, u21_8, u21_9, u21_10, u21_11, u21_12, u21_15, u21_16, u21_19, u21_20, u21_23, u21_24, u21_25, u21_26, u21_27, u21_30, u21_31, u21_34, u21_35, u21_37, u21_39, u21_42, u21_43, u21_46, u21_47, u21_48, u21_51, u21_52, u21_55, u21_58, u21_59, u21_59i, u21_60, u21_63, u21_64, u21_65, u21_68, ↓br_eq, ↓reduceIte, gd_true, ls_0, ls_1i, ls_1r, ls_1n, ls_1l, ls_2, ls2_eq, List.set_cons_zero, List.set_cons_succ, rf_s, cs_nil, cs_int, cs_ref, cs_long, Option.bind_some, Option.toList_some, Option.toList_none, List.nil_append, List.cons_append, Nat.reduceAdd, Nat.reduceSub, Nat.reduceMul, Nat.reduceLT, Nat.reduceLeDiff, Nat.reduceEqDiff, Int32.reduceAdd, Int32.reduceSub, Int32.reduceMul, Int32.reduceLT, Int32.reduceLE, Int32.reduceToInt, Int32.reduceToNatClampNeg, Int.reduceLE, Int.reduceLT, Int.reduceSub, Int.reduceToNat, and_self, true_and, and_true, or_true, true_or, false_or, or_false, false_and, and_false, not_false_eq_true, not_true_eq_false, eq_self, ↓li_m1, li_0, li_1, li_2, li_3, li_4, li_5, li_6, li_7, li_8, li_10, li_11, li_12, li_13, li_14, li_16, li_20, li_21, li_22, li_23, li_24, li_26, li_32, li_40, li_42, li_46, li_48, li_56, li_57, li_59, li_64, li_72, li_97, li_100, li_102, li_106, li_110, li_119, li_122, li_127, li_194, li_224, li_255, li_300, li_320, li_388, li_500, li_832, li_1000, ltT, ltF, leT, leF, eqT, eqF, eqmF, eqmF2, mlt, mle, mlt2, mle2, inT, cl, sbN, adm, mad, nI_add, pk_mul, dvN, rmN, rmN2, ofN, bo1, bo0, xle, xlt, xnl, xnt, xgt, xgt2, xge, xge0, xmo, dmN, kS0, lS0, kS1, lS1, kS2, lS2, kS3, lS3, kS4, lS4, kS5, lS5, kS6, lS6, kS7, lS7, kS8, fS8_0, fS8_1, fS8_2, fS8_3, fS8_4, fS8_5, fS8_6, fS8_7, fS8_8, fS8_9, kS9, lS9, fS9_0, fS9_1, fS9_2, fS9_3, fS9_4, fS9_5, fS9_6, fS9_7, kS10, fS10_0, fS10_1, kS11, fS11_0, kS12, lS12, kS13, fS13_5, fS13_6, fS13_7, fS13_8, fS13_9, kS14, lS14, kS15, lS15, kS16, lS16, kS17, lS17, kS18, lS18, kS19, fS19_5, fS19_6, fS19_7, fS19_8, fS19_9, kS20, lS20, kS21, lS21, kS22, lS22, kS23, lS23, kS24, lS24, kS25, lS25, fS25_0, fS25_1, kS26, kS27, fS27_3, fS27_4, fS27_5, kS28, lS28, kS29, lS29, kS30, lS30, kS31, fS31_3, fS31_4, kS32, lS32, kS33, lS33, kS34, fS34_3, fS34_4, kS35, lS35, kS36, lS36, kS37, kS38, fS38_0, kS39, lS39, kS40, fS40_0, kS41, lS41, kS42, fS42_0, kS43, lS43, kS44, fS44_0, kS45, lS45, kS46, fS46_0, kS47, lS47, kS48, fS48_0, kS49, lS49, kS50, fS50_0, kS51, lS51, kS52, fS52_0, kS53, lS53, kS54, fS54_0, kS55, lS55, kS56, fS56_5, fS56_6, fS56_7, fS56_8, fS56_9, kS57, lS57, kS58, lS58, kS59, lS59, kS60, lS60, kS61, lS61, kS62, fS62_5, fS62_6, fS62_7, fS62_8, fS62_9, kS63, lS63, kS64, lS64, kS65, lS65, kS66, lS66, kS67, lS67, kS68, fS68_2, fS68_3, fS68_4, fS68_5, fS68_6, fS68_8, fS68_18, fS68_19, fS68_21, fS68_22, fS68_23, fS68_24, fS68_25, fS68_26, fS68_27, fS68_28, fS68_30, fS68_32, fS68_33, fS68_34, fS68_35, kS69, lS69, kS70, lS70, kS71, lS71, kS72, lS72, kS73, lS73, kS74, lS74, kS75, lS75, kS76, lS76, kS77, lS77, kS78, lS78, kS79, lS79, kS80, lS80, kS81, lS81, kS82, lS82, kS83, lS83, kS84, lS84, kS85, lS85, kS86, lS86, kS87, lS87, kS88, lS88, kS89, lS89, lcE, q1t, q2f]
  · have q1f := q1.trans (eq_false p1)
    refine ⟨h, ?_, fin _ (Or.inl ⟨rfl, fun z => p1 z.1.1⟩)⟩
    simp (disch := first | assumption | omega) only [c21, u21_0, u21_1, u21_4, u21_5, u21_8, u21_9, u21_10, u21_11, u21_12, u21_15, u21_16, u21_19, u21_20, u21_23, u21_24, u21_25, u21_26, u21_27, u21_30, u21_31, u21_34, u21_35, u21_37, u21_39, u21_42, u21_43, u21_46, u21_47, u21_48, u21_51, u21_52, u21_55, u21_58, u21_59, u21_59i, u21_60, u21_63, u21_64, u21_65, u21_68, ↓br_eq, ↓reduceIte, gd_true, ls_0, ls_1i, ls_1r, ls_1n, ls_1l, ls_2, ls2_eq, List.set_cons_zero, List.set_cons_succ, rf_s, cs_nil, cs_int, cs_ref, cs_long, Option.bind_some, Option.toList_some, Option.toList_none, List.nil_append, List.cons_append, Nat.reduceAdd, Nat.reduceSub, Nat.reduceMul, Nat.reduceLT, Nat.reduceLeDiff, Nat.reduceEqDiff, Int32.reduceAdd, Int32.reduceSub, Int32.reduceMul, Int32.reduceLT, Int32.reduceLE, Int32.reduceToInt, Int32.reduceToNatClampNeg, Int.reduceLE, Int.reduceLT, Int.reduceSub, Int.reduceToNat, and_self, true_and, and_true, or_true, true_or, false_or, or_false, false_and, and_false, not_false_eq_true, not_true_eq_false, eq_self, ↓li_m1, li_0, li_1, li_2, li_3, li_4, li_5, li_6, li_7, li_8, li_10, li_11, li_12, li_13, li_14, li_16, li_20, li_21, li_22, li_23, li_24, li_26, li_32, li_40, li_42, li_46, li_48, li_56, li_57, li_59, li_64, li_72, li_97, li_100, li_102, li_106, li_110, li_119, li_122, li_127, li_194, li_224, li_255, li_300, li_320, li_388, li_500, li_832, li_1000, ltT, ltF, leT, leF, eqT, eqF, eqmF, eqmF2, mlt, mle, mlt2, mle2, inT, cl, sbN, adm, mad, nI_add, pk_mul, dvN, rmN, rmN2, ofN, bo1, bo0, xle, xlt, xnl, xnt, xgt, xgt2, xge, xge0, xmo, dmN, kS0, lS0, kS1, lS1, kS2, lS2, kS3, lS3, kS4, lS4, kS5, lS5, kS6, lS6, kS7, lS7, kS8, fS8_0, fS8_1, fS8_2, fS8_3, fS8_4, fS8_5, fS8_6, fS8_7, fS8_8, fS8_9, kS9, lS9, fS9_0, fS9_1, fS9_2, fS9_3, fS9_4, fS9_5, fS9_6, fS9_7, kS10, fS10_0, fS10_1, kS11, fS11_0, kS12, lS12, kS13, fS13_5, fS13_6, fS13_7, fS13_8, fS13_9, kS14, lS14, kS15, lS15, kS16, lS16, kS17, lS17, kS18, lS18, kS19, fS19_5, fS19_6, fS19_7, fS19_8, fS19_9, kS20, lS20, kS21, lS21, kS22, lS22, kS23, lS23, kS24, lS24, kS25, lS25, fS25_0, fS25_1, kS26, kS27, fS27_3, fS27_4, fS27_5, kS28, lS28, kS29, lS29, kS30, lS30, kS31, fS31_3, fS31_4, kS32, lS32, kS33, lS33, kS34, fS34_3, fS34_4, kS35, lS35, kS36, lS36, kS37, kS38, fS38_0, kS39, lS39, kS40, fS40_0, kS41, lS41, kS42, fS42_0, kS43, lS43, kS44, fS44_0, kS45, lS45, kS46, fS46_0, kS47, lS47, kS48, fS48_0, kS49, lS49, kS50, fS50_0, kS51, lS51, kS52, fS52_0, kS53, lS53, kS54, fS54_0, kS55, lS55, kS56, fS56_5, fS56_6, fS56_7, fS56_8, fS56_9, kS57, lS57, kS58, lS58, kS59, lS59, kS60, lS60, kS61, lS61, kS62, fS62_5, fS62_6, fS62_7, fS62_8, fS62_9, kS63, lS63, kS64, lS64, kS65, lS65, kS66, lS66, kS67, lS67, kS68, fS68_2, fS68_3, fS68_4, fS68_5, fS68_6, fS68_8, fS68_18, fS68_19, fS68_21, fS68_22, fS68_23, fS68_24, fS68_25, fS68_26, fS68_27, fS68_28, fS68_30, fS68_32, fS68_33, fS68_34, fS68_35, kS69, lS69, kS70, lS70, kS71, lS71, kS72, lS72, kS73, lS73, kS74, lS74, kS75, lS75, kS76, lS76, kS77, lS77, kS78, lS78, kS79, lS79, kS80, lS80, kS81, lS81, kS82, lS82, kS83, lS83, kS84, lS84, kS85, lS85, kS86, lS86, kS87, lS87, kS88, lS88, kS89, lS89, lcE, q1f]
set_option maxRecDepth 100000 in
set_option maxHeartbeats 400000 in
theorem wk37 (L : Nat) : wk3 L 37 21 := Or.inr (Or.inl ⟨rfl, rfl⟩)
set_option maxRecDepth 100000 in
set_option maxHeartbeats 400000 in
theorem k20 {g : Nat → Int32} {mn n m : Nat} {it : Nat → Int32} {h : aH} (G : HG h g) (hC : ∀ j, h.1 1 j = strF j) (hmn : mn < qM g) (hto : tok g it n m 0) (j6 : ∀ b, b < 64 → lb (h.2.1 37 3) b = pB (∃ i, i < n ∧ cn (it i) = b)) (j7 : ∀ b, b < 64 → lb (h.2.1 37 4) b = pB (∃ i, n ≤ i ∧ i < n + m ∧ bitc (cn (it i)) = b)) (L d : Nat) : ∃ h', call (d + 16) 20 [.ref 37, .ref 19, .int (nI mn)] (S0 L) h = some (some (.int (nI (cntP (fitP g (qP g mn) (qL g mn) it n m) (dfs g (qP g mn) 10 (qP g mn) [qP g mn] [])))), S0 L, h') ∧ Fr37 h h' := by
  have m4 := G.1.m4
  have pin := (G.1.peg hmn).2.1
  have p56 := inG56 G.1.w7 G.1.h6 pin
  have r12 := (G.1.rop hmn).2
  have ep := G.peg hmn
  have er := G.rop hmn
  have J0 : JF g (qP g mn) (qL g mn) it n m h [] (sI (sI (sR (sI (sI h 37 5 (nI (qL g mn))) 37 6 (nI 0)) 37 0 (some 19)) 37 1 (nI (qP g mn))) 37 2 (nI 10)) := by
    refine ⟨G.of (fun c k p1 p2 => ⟨?_, rfl⟩), fun j => ?_, ?_, ?_, sI_e .., ?_, ?_, j6, j7, fun c k hck => ⟨?_, rfl⟩⟩
    · rw [sI_n (by omega), sI_n (by omega), sR_1, sI_n (by omega), sI_n (by omega)]
    · rw [sI_n (by omega), sI_n (by omega), sR_1, sI_n (by omega), sI_n (by omega)]; exact hC j
    · show (sR (sI (sI h 37 5 (nI (qL g mn))) 37 6 (nI 0)) 37 0 (some 19)).2.2 37 0 = some 19
      rw [sR_22, if_pos ⟨rfl, rfl⟩]
    · rw [sI_n (by omega), sI_e]
    · rw [sI_n (by omega), sI_n (by omega), sR_1, sI_n (by omega), sI_e]
    · rw [sI_n (by omega), sI_n (by omega), sR_1, sI_e]; rfl
    · rw [sI_n (by omega), sI_n (by omega), sR_1, sI_n (by omega), sI_n (by omega)]
  obtain ⟨h2, b1, b2⟩ := goOn (wk37 L) (show 10 ≤ 12 by omega) pin (fun rs h J => ⟨J.1, J.2.1, J.2.2.1, J.2.2.2.1, J.2.2.2.2.1⟩) (meetF (h0 := h) pin r12 hto G.1.w7 G.1.h6 L) d 10 (qP g mn) [qP g mn] [] (1 <<< ((nI (qP g mn)).toInt64 &&& 63)) 0 0 [] _ rfl rfl trivial List.nodup_nil (fun z => by cases z) (fun x => by
    rw [List.mem_singleton]
    exact ⟨Or.inl, fun z => z.elim id (fun y => by cases y)⟩) (fun i hi => by
    rw [lb_one_shl (by omega) hi, ← pB_dec]; congr 1; apply propext; rw [List.mem_singleton]) (fun i hi => by rw [lb_0]; rfl) (fun i hi => by
    rw [lb_0]; unfold pkW; rw [List.getD_eq_getElem?_getD]; show false = (0 : Nat).testBit _; rw [Nat.zero_testBit]) J0
  rw [List.nil_append] at b2
  obtain ⟨-, -, -, -, -, -, j5, -, -, j8⟩ := b2
  have hk3 := (wk37 L).k
  have b1' : call (d + 14) 79 [.ref 37, .int (nI (qP g mn)), .int (nI 0), .long (1 <<< ((nI (qP g mn)).toInt64 &&& 63)), .long 0, .long 0] (S0 L) (sI (sI (sR (sI (sI h 37 5 (nI (qL g mn))) 37 6 (nI 0)) 37 0 (some 19)) 37 1 (nI (qP g mn))) 37 2 (nI 10)) = some (none, S0 L, h2) := b1
  refine ⟨h2, ?_, j8⟩
  generalize cntP (fitP g (qP g mn) (qL g mn) it n m) (dfs g (qP g mn) 10 (qP g mn) [qP g mn] []) = cc at *
  simp (disch := first | assumption | omega) only [c20, u20_0, u20_1, u20_2, u20_5, u20_6, u20_7, u20_10, u20_11, u20_12, u20_15, u20_16, u20_17, u20_18, u20_21, u20_22, u20_23, u20_25, u20_28, u20_29, u20_32, ↓br_eq, ↓reduceIte, gd_true, ls_0, ls_1i, ls_1r, ls_1n, ls_1l, ls_2, ls2_eq, List.set_cons_zero, List.set_cons_succ, rf_s, cs_nil, cs_int, cs_ref, cs_long, Option.bind_some, Option.toList_some, Option.toList_none, List.nil_append, List.cons_append, Nat.reduceAdd, Nat.reduceSub, Nat.reduceMul, Nat.reduceLT, Nat.reduceLeDiff, Nat.reduceEqDiff, Int32.reduceAdd, Int32.reduceSub, Int32.reduceMul, Int32.reduceLT, Int32.reduceLE, Int32.reduceToInt, Int32.reduceToNatClampNeg, Int.reduceLE, Int.reduceLT, Int.reduceSub, Int.reduceToNat, and_self, true_and, and_true, or_true, true_or, false_or, or_false, false_and, and_false, not_false_eq_true, not_true_eq_false, eq_self, ↓li_m1, li_0, li_1, li_2, li_3, li_4, li_5, li_6, li_7, li_8, li_10, li_11, li_12, li_13, li_14, li_16, li_20, li_21, li_22, li_23, li_24, li_26, li_32, li_40, li_42, li_46, li_48, li_56, li_57, li_59, li_64, li_72, li_97, li_100, li_102, li_106, li_110, li_119, li_122, li_127, li_194, li_224, li_255, li_300, li_320, li_388, li_500, li_832, li_1000, ltT, ltF, leT, leF, eqT, eqF, eqmF, eqmF2, mlt, mle, mlt2, mle2, inT, cl, sbN, adm, mad, nI_add, pk_mul, dvN, rmN, rmN2, ofN, bo1, bo0, xle, xlt, xnl, xnt, xgt, xgt2, xge, xge0, xmo, dmN, kS0, lS0, kS1, lS1, kS2, lS2, kS3, lS3, kS4, lS4, kS5, lS5, kS6, lS6, kS7, lS7, kS8, fS8_0, fS8_1, fS8_2, fS8_3, fS8_4, fS8_5, fS8_6, fS8_7, fS8_8, fS8_9, kS9, lS9, fS9_0, fS9_1, fS9_2, fS9_3, fS9_4, fS9_5, fS9_6, fS9_7, kS10, fS10_0, fS10_1, kS11, fS11_0, kS12, lS12, kS13, fS13_5, fS13_6, fS13_7, fS13_8, fS13_9, kS14, lS14, kS15, lS15, kS16, lS16, kS17, lS17, kS18, lS18, kS19, fS19_5, fS19_6, fS19_7, fS19_8, fS19_9, kS20, lS20, kS21, lS21, kS22, lS22, kS23, lS23, kS24, lS24, kS25, lS25, fS25_0, fS25_1, kS26, kS27, fS27_3, fS27_4, fS27_5, kS28, lS28, kS29, lS29, kS30, lS30, kS31, fS31_3, fS31_4, kS32, lS32, kS33, lS33, kS34, fS34_3, fS34_4, kS35, lS35, kS36, lS36, kS37, kS38, fS38_0, kS39, lS39, kS40, fS40_0, kS41, lS41, kS42, fS42_0, kS43, lS43, kS44, fS44_0, kS45, lS45, kS46, fS46_0, kS47, lS47, kS48, fS48_0, kS49, lS49, kS50, fS50_0, kS51, lS51, kS52, fS52_0, kS53, lS53, kS54, fS54_0, kS55, lS55, kS56, fS56_5, fS56_6, fS56_7, fS56_8, fS56_9, kS57, lS57, kS58, lS58, kS59, lS59, kS60, lS60, kS61, lS61, kS62, fS62_5, fS62_6, fS62_7, fS62_8, fS62_9, kS63, lS63, kS64, lS64, kS65, lS65, kS66, lS66, kS67, lS67, kS68, fS68_2, fS68_3, fS68_4, fS68_5, fS68_6, fS68_8, fS68_18, fS68_19, fS68_21, fS68_22, fS68_23, fS68_24, fS68_25, fS68_26, fS68_27, fS68_28, fS68_30, fS68_32, fS68_33, fS68_34, fS68_35, kS69, lS69, kS70, lS70, kS71, lS71, kS72, lS72, kS73, lS73, kS74, lS74, kS75, lS75, kS76, lS76, kS77, lS77, kS78, lS78, kS79, lS79, kS80, lS80, kS81, lS81, kS82, lS82, kS83, lS83, kS84, lS84, kS85, lS85, kS86, lS86, kS87, lS87, kS88, lS88, kS89, lS89, sI_n, ep, er, c78, u78_0, u78_1, u78_2, u78_5, u78_6, u78_7, u78_10, u78_11, u78_12, u78_15, u78_16, u78_17, u78_18, u78_19, u78_20, u78_21, u78_22, u78_26, hk3, (wk37 L).a, b1', j5]
